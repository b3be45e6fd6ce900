section
-- ===== PART A: goes FIRST, ahead of the names: the tables' words, and 'selects' of the private methods out of them =====
/-- a private method of a class that the tables say can be made, by its rows of tables_1 -/
def lw_okq (q : MethodName × Nat) : Prop := (q.1.cls ≠ "java/lang/invoke/MethodHandle" ∧ q.1.cls ≠ "java/lang/invoke/VarHandle") ∧ Cond.instantiable q.1.cls q.2 ∈ tables_1 ∧ Cond.privateMethod q.1 ∈ tables_1 ∧ Cond.instanceMethod q.1 ∈ tables_1
theorem lw_p0 : lw_okq (⟨"java/lang/Throwable", "fillInStackTrace", "(I)Ljava/lang/Throwable;"⟩, 6) := ⟨⟨by decide +kernel, by decide +kernel⟩, List.mem_of_getElem? (i := 270) (by decide +kernel), List.mem_of_getElem? (i := 268) (by decide +kernel), List.mem_of_getElem? (i := 269) (by decide +kernel)⟩
theorem lw_p1 : lw_okq (⟨"ChannelMachine$Reader", "process", "(LChannelMachine$Process;IZ)Z"⟩, 9) := ⟨⟨by decide +kernel, by decide +kernel⟩, List.mem_of_getElem? (i := 38) (by decide +kernel), List.mem_of_getElem? (i := 331) (by decide +kernel), List.mem_of_getElem? (i := 332) (by decide +kernel)⟩
theorem lw_p2 : lw_okq (⟨"ChannelMachine$Reader", "begin", "(LChannelMachine$Process;I)LChannelMachine$Process;"⟩, 9) := ⟨⟨by decide +kernel, by decide +kernel⟩, List.mem_of_getElem? (i := 38) (by decide +kernel), List.mem_of_getElem? (i := 335) (by decide +kernel), List.mem_of_getElem? (i := 336) (by decide +kernel)⟩
theorem lw_p3 : lw_okq (⟨"ChannelMachine$Reader", "look", "()C"⟩, 9) := ⟨⟨by decide +kernel, by decide +kernel⟩, List.mem_of_getElem? (i := 38) (by decide +kernel), List.mem_of_getElem? (i := 339) (by decide +kernel), List.mem_of_getElem? (i := 340) (by decide +kernel)⟩
theorem lw_p4 : lw_okq (⟨"ChannelMachine$Reader", "lookBehindNext", "()C"⟩, 9) := ⟨⟨by decide +kernel, by decide +kernel⟩, List.mem_of_getElem? (i := 38) (by decide +kernel), List.mem_of_getElem? (i := 343) (by decide +kernel), List.mem_of_getElem? (i := 344) (by decide +kernel)⟩
theorem lw_p5 : lw_okq (⟨"ChannelMachine$Reader", "added", "(LChannelMachine$Kind;LChannelMachine$Process;)LChannelMachine$Process;"⟩, 9) := ⟨⟨by decide +kernel, by decide +kernel⟩, List.mem_of_getElem? (i := 38) (by decide +kernel), List.mem_of_getElem? (i := 378) (by decide +kernel), List.mem_of_getElem? (i := 379) (by decide +kernel)⟩
theorem lw_p6 : lw_okq (⟨"ChannelMachine$Reader", "refuse", "()Z"⟩, 9) := ⟨⟨by decide +kernel, by decide +kernel⟩, List.mem_of_getElem? (i := 38) (by decide +kernel), List.mem_of_getElem? (i := 478) (by decide +kernel), List.mem_of_getElem? (i := 479) (by decide +kernel)⟩
theorem lw_p7 : lw_okq (⟨"ChannelMachine$Reader", "expect", "(C)Z"⟩, 9) := ⟨⟨by decide +kernel, by decide +kernel⟩, List.mem_of_getElem? (i := 38) (by decide +kernel), List.mem_of_getElem? (i := 493) (by decide +kernel), List.mem_of_getElem? (i := 494) (by decide +kernel)⟩
theorem lw_p8 : lw_okq (⟨"ChannelMachine$Reader", "endOfLast", "(Z)I"⟩, 9) := ⟨⟨by decide +kernel, by decide +kernel⟩, List.mem_of_getElem? (i := 38) (by decide +kernel), List.mem_of_getElem? (i := 497) (by decide +kernel), List.mem_of_getElem? (i := 498) (by decide +kernel)⟩
theorem lw_p9 : lw_okq (⟨"ChannelMachine$Reader", "expression", "()Z"⟩, 9) := ⟨⟨by decide +kernel, by decide +kernel⟩, List.mem_of_getElem? (i := 38) (by decide +kernel), List.mem_of_getElem? (i := 501) (by decide +kernel), List.mem_of_getElem? (i := 502) (by decide +kernel)⟩
theorem lw_p10 : lw_okq (⟨"ChannelMachine$Reader", "joined", "(II)Z"⟩, 9) := ⟨⟨by decide +kernel, by decide +kernel⟩, List.mem_of_getElem? (i := 38) (by decide +kernel), List.mem_of_getElem? (i := 505) (by decide +kernel), List.mem_of_getElem? (i := 506) (by decide +kernel)⟩
theorem lw_p11 : lw_okq (⟨"ChannelMachine$Reader", "unary", "(I)Z"⟩, 9) := ⟨⟨by decide +kernel, by decide +kernel⟩, List.mem_of_getElem? (i := 38) (by decide +kernel), List.mem_of_getElem? (i := 509) (by decide +kernel), List.mem_of_getElem? (i := 510) (by decide +kernel)⟩
theorem lw_p12 : lw_okq (⟨"ChannelMachine$Reader", "write", "(I)V"⟩, 9) := ⟨⟨by decide +kernel, by decide +kernel⟩, List.mem_of_getElem? (i := 38) (by decide +kernel), List.mem_of_getElem? (i := 516) (by decide +kernel), List.mem_of_getElem? (i := 517) (by decide +kernel)⟩
theorem lw_p13 : lw_okq (⟨"ChannelMachine$Reader", "lastExpression", "(LChannelMachine$Process;I)Z"⟩, 9) := ⟨⟨by decide +kernel, by decide +kernel⟩, List.mem_of_getElem? (i := 38) (by decide +kernel), List.mem_of_getElem? (i := 523) (by decide +kernel), List.mem_of_getElem? (i := 524) (by decide +kernel)⟩
theorem lw_p14 : lw_okq (⟨"ChannelMachine$Reader", "codeRead", "()[I"⟩, 9) := ⟨⟨by decide +kernel, by decide +kernel⟩, List.mem_of_getElem? (i := 38) (by decide +kernel), List.mem_of_getElem? (i := 527) (by decide +kernel), List.mem_of_getElem? (i := 528) (by decide +kernel)⟩
theorem lw_p15 : lw_okq (⟨"ChannelMachine$Reader", "inputVariable", "()I"⟩, 9) := ⟨⟨by decide +kernel, by decide +kernel⟩, List.mem_of_getElem? (i := 38) (by decide +kernel), List.mem_of_getElem? (i := 547) (by decide +kernel), List.mem_of_getElem? (i := 548) (by decide +kernel)⟩
def lw_privs_1 : List (MethodName × Nat) := [(⟨"java/lang/Throwable", "fillInStackTrace", "(I)Ljava/lang/Throwable;"⟩, 6), (⟨"ChannelMachine$Reader", "process", "(LChannelMachine$Process;IZ)Z"⟩, 9), (⟨"ChannelMachine$Reader", "begin", "(LChannelMachine$Process;I)LChannelMachine$Process;"⟩, 9), (⟨"ChannelMachine$Reader", "look", "()C"⟩, 9), (⟨"ChannelMachine$Reader", "lookBehindNext", "()C"⟩, 9), (⟨"ChannelMachine$Reader", "added", "(LChannelMachine$Kind;LChannelMachine$Process;)LChannelMachine$Process;"⟩, 9), (⟨"ChannelMachine$Reader", "refuse", "()Z"⟩, 9), (⟨"ChannelMachine$Reader", "expect", "(C)Z"⟩, 9), (⟨"ChannelMachine$Reader", "endOfLast", "(Z)I"⟩, 9), (⟨"ChannelMachine$Reader", "expression", "()Z"⟩, 9), (⟨"ChannelMachine$Reader", "joined", "(II)Z"⟩, 9), (⟨"ChannelMachine$Reader", "unary", "(I)Z"⟩, 9), (⟨"ChannelMachine$Reader", "write", "(I)V"⟩, 9), (⟨"ChannelMachine$Reader", "lastExpression", "(LChannelMachine$Process;I)Z"⟩, 9), (⟨"ChannelMachine$Reader", "codeRead", "()[I"⟩, 9), (⟨"ChannelMachine$Reader", "inputVariable", "()I"⟩, 9)]
theorem lw_r1 : ∀ q ∈ lw_privs_1, lw_okq q := List.forall_mem_cons.mpr ⟨lw_p0, List.forall_mem_cons.mpr ⟨lw_p1, List.forall_mem_cons.mpr ⟨lw_p2, List.forall_mem_cons.mpr ⟨lw_p3, List.forall_mem_cons.mpr ⟨lw_p4, List.forall_mem_cons.mpr ⟨lw_p5, List.forall_mem_cons.mpr ⟨lw_p6, List.forall_mem_cons.mpr ⟨lw_p7, List.forall_mem_cons.mpr ⟨lw_p8, List.forall_mem_cons.mpr ⟨lw_p9, List.forall_mem_cons.mpr ⟨lw_p10, List.forall_mem_cons.mpr ⟨lw_p11, List.forall_mem_cons.mpr ⟨lw_p12, List.forall_mem_cons.mpr ⟨lw_p13, List.forall_mem_cons.mpr ⟨lw_p14, List.forall_mem_cons.mpr ⟨lw_p15, fun _ h => absurd h List.not_mem_nil⟩⟩⟩⟩⟩⟩⟩⟩⟩⟩⟩⟩⟩⟩⟩⟩
theorem lw_p16 : lw_okq (⟨"ChannelMachine$Reader", "parts", "(LChannelMachine$Process;II)Z"⟩, 9) := ⟨⟨by decide +kernel, by decide +kernel⟩, List.mem_of_getElem? (i := 38) (by decide +kernel), List.mem_of_getElem? (i := 551) (by decide +kernel), List.mem_of_getElem? (i := 552) (by decide +kernel)⟩
theorem lw_p17 : lw_okq (⟨"ChannelMachine$Reader", "guards", "(LChannelMachine$Process;I)Z"⟩, 9) := ⟨⟨by decide +kernel, by decide +kernel⟩, List.mem_of_getElem? (i := 38) (by decide +kernel), List.mem_of_getElem? (i := 559) (by decide +kernel), List.mem_of_getElem? (i := 560) (by decide +kernel)⟩
theorem lw_p18 : lw_okq (⟨"ChannelMachine$Reader", "guardInput", "(LChannelMachine$Guard;)Z"⟩, 9) := ⟨⟨by decide +kernel, by decide +kernel⟩, List.mem_of_getElem? (i := 38) (by decide +kernel), List.mem_of_getElem? (i := 600) (by decide +kernel), List.mem_of_getElem? (i := 601) (by decide +kernel)⟩
theorem lw_p19 : lw_okq (⟨"ChannelMachine$Reader", "condition", "(LChannelMachine$Process;)Z"⟩, 9) := ⟨⟨by decide +kernel, by decide +kernel⟩, List.mem_of_getElem? (i := 38) (by decide +kernel), List.mem_of_getElem? (i := 604) (by decide +kernel), List.mem_of_getElem? (i := 605) (by decide +kernel)⟩
theorem lw_p20 : lw_okq (⟨"ChannelMachine$Machine", "close", "(I)V"⟩, 11) := ⟨⟨by decide +kernel, by decide +kernel⟩, List.mem_of_getElem? (i := 78) (by decide +kernel), List.mem_of_getElem? (i := 617) (by decide +kernel), List.mem_of_getElem? (i := 618) (by decide +kernel)⟩
theorem lw_p21 : lw_okq (⟨"ChannelMachine$Machine", "start", "(LChannelMachine$Task;)Z"⟩, 11) := ⟨⟨by decide +kernel, by decide +kernel⟩, List.mem_of_getElem? (i := 78) (by decide +kernel), List.mem_of_getElem? (i := 633) (by decide +kernel), List.mem_of_getElem? (i := 634) (by decide +kernel)⟩
theorem lw_p22 : lw_okq (⟨"java/util/ArrayList", "add", "(Ljava/lang/Object;[Ljava/lang/Object;I)V"⟩, 3) := ⟨⟨by decide +kernel, by decide +kernel⟩, List.mem_of_getElem? (i := 101) (by decide +kernel), List.mem_of_getElem? (i := 658) (by decide +kernel), List.mem_of_getElem? (i := 659) (by decide +kernel)⟩
theorem lw_p23 : lw_okq (⟨"java/util/ArrayList", "grow", "()[Ljava/lang/Object;"⟩, 3) := ⟨⟨by decide +kernel, by decide +kernel⟩, List.mem_of_getElem? (i := 101) (by decide +kernel), List.mem_of_getElem? (i := 662) (by decide +kernel), List.mem_of_getElem? (i := 663) (by decide +kernel)⟩
theorem lw_p24 : lw_okq (⟨"java/util/ArrayList", "grow", "(I)[Ljava/lang/Object;"⟩, 3) := ⟨⟨by decide +kernel, by decide +kernel⟩, List.mem_of_getElem? (i := 101) (by decide +kernel), List.mem_of_getElem? (i := 666) (by decide +kernel), List.mem_of_getElem? (i := 667) (by decide +kernel)⟩
theorem lw_p25 : lw_okq (⟨"ChannelMachine$Machine", "settle", "()V"⟩, 11) := ⟨⟨by decide +kernel, by decide +kernel⟩, List.mem_of_getElem? (i := 78) (by decide +kernel), List.mem_of_getElem? (i := 722) (by decide +kernel), List.mem_of_getElem? (i := 723) (by decide +kernel)⟩
theorem lw_p26 : lw_okq (⟨"java/util/ArrayList", "fastRemove", "([Ljava/lang/Object;I)V"⟩, 3) := ⟨⟨by decide +kernel, by decide +kernel⟩, List.mem_of_getElem? (i := 101) (by decide +kernel), List.mem_of_getElem? (i := 765) (by decide +kernel), List.mem_of_getElem? (i := 766) (by decide +kernel)⟩
theorem lw_p27 : lw_okq (⟨"ChannelMachine$Machine", "finish", "(LChannelMachine$Task;)V"⟩, 11) := ⟨⟨by decide +kernel, by decide +kernel⟩, List.mem_of_getElem? (i := 78) (by decide +kernel), List.mem_of_getElem? (i := 770) (by decide +kernel), List.mem_of_getElem? (i := 771) (by decide +kernel)⟩
theorem lw_p28 : lw_okq (⟨"ChannelMachine$Machine", "resume", "(LChannelMachine$Task;)V"⟩, 11) := ⟨⟨by decide +kernel, by decide +kernel⟩, List.mem_of_getElem? (i := 78) (by decide +kernel), List.mem_of_getElem? (i := 774) (by decide +kernel), List.mem_of_getElem? (i := 775) (by decide +kernel)⟩
theorem lw_p29 : lw_okq (⟨"ChannelMachine$Machine", "act", "(LChannelMachine$Task;)V"⟩, 11) := ⟨⟨by decide +kernel, by decide +kernel⟩, List.mem_of_getElem? (i := 78) (by decide +kernel), List.mem_of_getElem? (i := 782) (by decide +kernel), List.mem_of_getElem? (i := 783) (by decide +kernel)⟩
theorem lw_p30 : lw_okq (⟨"ChannelMachine$Machine", "pause", "()V"⟩, 11) := ⟨⟨by decide +kernel, by decide +kernel⟩, List.mem_of_getElem? (i := 78) (by decide +kernel), List.mem_of_getElem? (i := 788) (by decide +kernel), List.mem_of_getElem? (i := 789) (by decide +kernel)⟩
theorem lw_p31 : lw_okq (⟨"ChannelMachine$Machine", "evaluate", "([I)I"⟩, 11) := ⟨⟨by decide +kernel, by decide +kernel⟩, List.mem_of_getElem? (i := 78) (by decide +kernel), List.mem_of_getElem? (i := 792) (by decide +kernel), List.mem_of_getElem? (i := 793) (by decide +kernel)⟩
def lw_privs_2 : List (MethodName × Nat) := [(⟨"ChannelMachine$Reader", "parts", "(LChannelMachine$Process;II)Z"⟩, 9), (⟨"ChannelMachine$Reader", "guards", "(LChannelMachine$Process;I)Z"⟩, 9), (⟨"ChannelMachine$Reader", "guardInput", "(LChannelMachine$Guard;)Z"⟩, 9), (⟨"ChannelMachine$Reader", "condition", "(LChannelMachine$Process;)Z"⟩, 9), (⟨"ChannelMachine$Machine", "close", "(I)V"⟩, 11), (⟨"ChannelMachine$Machine", "start", "(LChannelMachine$Task;)Z"⟩, 11), (⟨"java/util/ArrayList", "add", "(Ljava/lang/Object;[Ljava/lang/Object;I)V"⟩, 3), (⟨"java/util/ArrayList", "grow", "()[Ljava/lang/Object;"⟩, 3), (⟨"java/util/ArrayList", "grow", "(I)[Ljava/lang/Object;"⟩, 3), (⟨"ChannelMachine$Machine", "settle", "()V"⟩, 11), (⟨"java/util/ArrayList", "fastRemove", "([Ljava/lang/Object;I)V"⟩, 3), (⟨"ChannelMachine$Machine", "finish", "(LChannelMachine$Task;)V"⟩, 11), (⟨"ChannelMachine$Machine", "resume", "(LChannelMachine$Task;)V"⟩, 11), (⟨"ChannelMachine$Machine", "act", "(LChannelMachine$Task;)V"⟩, 11), (⟨"ChannelMachine$Machine", "pause", "()V"⟩, 11), (⟨"ChannelMachine$Machine", "evaluate", "([I)I"⟩, 11)]
theorem lw_r2 : ∀ q ∈ lw_privs_2, lw_okq q := List.forall_mem_cons.mpr ⟨lw_p16, List.forall_mem_cons.mpr ⟨lw_p17, List.forall_mem_cons.mpr ⟨lw_p18, List.forall_mem_cons.mpr ⟨lw_p19, List.forall_mem_cons.mpr ⟨lw_p20, List.forall_mem_cons.mpr ⟨lw_p21, List.forall_mem_cons.mpr ⟨lw_p22, List.forall_mem_cons.mpr ⟨lw_p23, List.forall_mem_cons.mpr ⟨lw_p24, List.forall_mem_cons.mpr ⟨lw_p25, List.forall_mem_cons.mpr ⟨lw_p26, List.forall_mem_cons.mpr ⟨lw_p27, List.forall_mem_cons.mpr ⟨lw_p28, List.forall_mem_cons.mpr ⟨lw_p29, List.forall_mem_cons.mpr ⟨lw_p30, List.forall_mem_cons.mpr ⟨lw_p31, fun _ h => absurd h List.not_mem_nil⟩⟩⟩⟩⟩⟩⟩⟩⟩⟩⟩⟩⟩⟩⟩⟩
theorem lw_p32 : lw_okq (⟨"ChannelMachine$Machine", "combined", "(CII)I"⟩, 11) := ⟨⟨by decide +kernel, by decide +kernel⟩, List.mem_of_getElem? (i := 78) (by decide +kernel), List.mem_of_getElem? (i := 796) (by decide +kernel), List.mem_of_getElem? (i := 797) (by decide +kernel)⟩
theorem lw_p33 : lw_okq (⟨"ChannelMachine$Machine", "assign", "(II)V"⟩, 11) := ⟨⟨by decide +kernel, by decide +kernel⟩, List.mem_of_getElem? (i := 78) (by decide +kernel), List.mem_of_getElem? (i := 816) (by decide +kernel), List.mem_of_getElem? (i := 817) (by decide +kernel)⟩
theorem lw_p34 : lw_okq (⟨"ChannelMachine$Machine", "loop", "(LChannelMachine$Task;LChannelMachine$Process;)V"⟩, 11) := ⟨⟨by decide +kernel, by decide +kernel⟩, List.mem_of_getElem? (i := 78) (by decide +kernel), List.mem_of_getElem? (i := 820) (by decide +kernel), List.mem_of_getElem? (i := 821) (by decide +kernel)⟩
theorem lw_p35 : lw_okq (⟨"ChannelMachine$Machine", "makeTasks", "(LChannelMachine$Task;LChannelMachine$Process;)V"⟩, 11) := ⟨⟨by decide +kernel, by decide +kernel⟩, List.mem_of_getElem? (i := 78) (by decide +kernel), List.mem_of_getElem? (i := 824) (by decide +kernel), List.mem_of_getElem? (i := 825) (by decide +kernel)⟩
theorem lw_p36 : lw_okq (⟨"ChannelMachine$Machine", "output", "(LChannelMachine$Task;II)V"⟩, 11) := ⟨⟨by decide +kernel, by decide +kernel⟩, List.mem_of_getElem? (i := 78) (by decide +kernel), List.mem_of_getElem? (i := 828) (by decide +kernel), List.mem_of_getElem? (i := 829) (by decide +kernel)⟩
theorem lw_p37 : lw_okq (⟨"ChannelMachine$Machine", "deliver", "(LChannelMachine$Channel;I)V"⟩, 11) := ⟨⟨by decide +kernel, by decide +kernel⟩, List.mem_of_getElem? (i := 78) (by decide +kernel), List.mem_of_getElem? (i := 840) (by decide +kernel), List.mem_of_getElem? (i := 841) (by decide +kernel)⟩
theorem lw_p38 : lw_okq (⟨"ChannelMachine$Machine", "clash", "()V"⟩, 11) := ⟨⟨by decide +kernel, by decide +kernel⟩, List.mem_of_getElem? (i := 78) (by decide +kernel), List.mem_of_getElem? (i := 844) (by decide +kernel), List.mem_of_getElem? (i := 845) (by decide +kernel)⟩
theorem lw_p39 : lw_okq (⟨"ChannelMachine$Machine", "input", "(LChannelMachine$Task;LChannelMachine$Process;)V"⟩, 11) := ⟨⟨by decide +kernel, by decide +kernel⟩, List.mem_of_getElem? (i := 78) (by decide +kernel), List.mem_of_getElem? (i := 851) (by decide +kernel), List.mem_of_getElem? (i := 852) (by decide +kernel)⟩
theorem lw_p40 : lw_okq (⟨"ChannelMachine$Machine", "isReady", "(I)Z"⟩, 11) := ⟨⟨by decide +kernel, by decide +kernel⟩, List.mem_of_getElem? (i := 78) (by decide +kernel), List.mem_of_getElem? (i := 855) (by decide +kernel), List.mem_of_getElem? (i := 856) (by decide +kernel)⟩
theorem lw_p41 : lw_okq (⟨"ChannelMachine$Machine", "fetched", "(I)I"⟩, 11) := ⟨⟨by decide +kernel, by decide +kernel⟩, List.mem_of_getElem? (i := 78) (by decide +kernel), List.mem_of_getElem? (i := 859) (by decide +kernel), List.mem_of_getElem? (i := 860) (by decide +kernel)⟩
theorem lw_p42 : lw_okq (⟨"ChannelMachine$Machine", "await", "(LChannelMachine$Task;IILChannelMachine$Process;)V"⟩, 11) := ⟨⟨by decide +kernel, by decide +kernel⟩, List.mem_of_getElem? (i := 78) (by decide +kernel), List.mem_of_getElem? (i := 868) (by decide +kernel), List.mem_of_getElem? (i := 869) (by decide +kernel)⟩
theorem lw_p43 : lw_okq (⟨"ChannelMachine$Machine", "choose", "(LChannelMachine$Task;LChannelMachine$Process;)V"⟩, 11) := ⟨⟨by decide +kernel, by decide +kernel⟩, List.mem_of_getElem? (i := 78) (by decide +kernel), List.mem_of_getElem? (i := 872) (by decide +kernel), List.mem_of_getElem? (i := 873) (by decide +kernel)⟩
theorem lw_p44 : lw_okq (⟨"ChannelMachine$Machine", "pass", "(LChannelMachine$Task;LChannelMachine$Guard;)V"⟩, 11) := ⟨⟨by decide +kernel, by decide +kernel⟩, List.mem_of_getElem? (i := 78) (by decide +kernel), List.mem_of_getElem? (i := 876) (by decide +kernel), List.mem_of_getElem? (i := 877) (by decide +kernel)⟩
theorem lw_p45 : lw_okq (⟨"ChannelMachine$Machine", "delay", "(LChannelMachine$Task;I)V"⟩, 11) := ⟨⟨by decide +kernel, by decide +kernel⟩, List.mem_of_getElem? (i := 78) (by decide +kernel), List.mem_of_getElem? (i := 880) (by decide +kernel), List.mem_of_getElem? (i := 881) (by decide +kernel)⟩
theorem lw_p46 : lw_okq (⟨"ChannelMachine$Machine", "growTime", "()V"⟩, 11) := ⟨⟨by decide +kernel, by decide +kernel⟩, List.mem_of_getElem? (i := 78) (by decide +kernel), List.mem_of_getElem? (i := 884) (by decide +kernel), List.mem_of_getElem? (i := 885) (by decide +kernel)⟩
theorem lw_p47 : lw_okq (⟨"ChannelMachine$Machine", "isHostAwaited", "()Z"⟩, 11) := ⟨⟨by decide +kernel, by decide +kernel⟩, List.mem_of_getElem? (i := 78) (by decide +kernel), List.mem_of_getElem? (i := 893) (by decide +kernel), List.mem_of_getElem? (i := 894) (by decide +kernel)⟩
def lw_privs_3 : List (MethodName × Nat) := [(⟨"ChannelMachine$Machine", "combined", "(CII)I"⟩, 11), (⟨"ChannelMachine$Machine", "assign", "(II)V"⟩, 11), (⟨"ChannelMachine$Machine", "loop", "(LChannelMachine$Task;LChannelMachine$Process;)V"⟩, 11), (⟨"ChannelMachine$Machine", "makeTasks", "(LChannelMachine$Task;LChannelMachine$Process;)V"⟩, 11), (⟨"ChannelMachine$Machine", "output", "(LChannelMachine$Task;II)V"⟩, 11), (⟨"ChannelMachine$Machine", "deliver", "(LChannelMachine$Channel;I)V"⟩, 11), (⟨"ChannelMachine$Machine", "clash", "()V"⟩, 11), (⟨"ChannelMachine$Machine", "input", "(LChannelMachine$Task;LChannelMachine$Process;)V"⟩, 11), (⟨"ChannelMachine$Machine", "isReady", "(I)Z"⟩, 11), (⟨"ChannelMachine$Machine", "fetched", "(I)I"⟩, 11), (⟨"ChannelMachine$Machine", "await", "(LChannelMachine$Task;IILChannelMachine$Process;)V"⟩, 11), (⟨"ChannelMachine$Machine", "choose", "(LChannelMachine$Task;LChannelMachine$Process;)V"⟩, 11), (⟨"ChannelMachine$Machine", "pass", "(LChannelMachine$Task;LChannelMachine$Guard;)V"⟩, 11), (⟨"ChannelMachine$Machine", "delay", "(LChannelMachine$Task;I)V"⟩, 11), (⟨"ChannelMachine$Machine", "growTime", "()V"⟩, 11), (⟨"ChannelMachine$Machine", "isHostAwaited", "()Z"⟩, 11)]
theorem lw_r3 : ∀ q ∈ lw_privs_3, lw_okq q := List.forall_mem_cons.mpr ⟨lw_p32, List.forall_mem_cons.mpr ⟨lw_p33, List.forall_mem_cons.mpr ⟨lw_p34, List.forall_mem_cons.mpr ⟨lw_p35, List.forall_mem_cons.mpr ⟨lw_p36, List.forall_mem_cons.mpr ⟨lw_p37, List.forall_mem_cons.mpr ⟨lw_p38, List.forall_mem_cons.mpr ⟨lw_p39, List.forall_mem_cons.mpr ⟨lw_p40, List.forall_mem_cons.mpr ⟨lw_p41, List.forall_mem_cons.mpr ⟨lw_p42, List.forall_mem_cons.mpr ⟨lw_p43, List.forall_mem_cons.mpr ⟨lw_p44, List.forall_mem_cons.mpr ⟨lw_p45, List.forall_mem_cons.mpr ⟨lw_p46, List.forall_mem_cons.mpr ⟨lw_p47, fun _ h => absurd h List.not_mem_nil⟩⟩⟩⟩⟩⟩⟩⟩⟩⟩⟩⟩⟩⟩⟩⟩
theorem lw_p48 : lw_okq (⟨"ChannelMachineModel", "bad", "(Z)Z"⟩, 45) := ⟨⟨by decide +kernel, by decide +kernel⟩, List.mem_of_getElem? (i := 962) (by decide +kernel), List.mem_of_getElem? (i := 1117) (by decide +kernel), List.mem_of_getElem? (i := 1118) (by decide +kernel)⟩
theorem lw_p49 : lw_okq (⟨"ChannelMachineModel", "fail", "(I)I"⟩, 45) := ⟨⟨by decide +kernel, by decide +kernel⟩, List.mem_of_getElem? (i := 962) (by decide +kernel), List.mem_of_getElem? (i := 1121) (by decide +kernel), List.mem_of_getElem? (i := 1122) (by decide +kernel)⟩
theorem lw_p50 : lw_okq (⟨"ChannelMachineModel", "read", "()Z"⟩, 45) := ⟨⟨by decide +kernel, by decide +kernel⟩, List.mem_of_getElem? (i := 962) (by decide +kernel), List.mem_of_getElem? (i := 1129) (by decide +kernel), List.mem_of_getElem? (i := 1130) (by decide +kernel)⟩
theorem lw_p51 : lw_okq (⟨"ChannelMachineModel", "closes", "()Z"⟩, 45) := ⟨⟨by decide +kernel, by decide +kernel⟩, List.mem_of_getElem? (i := 962) (by decide +kernel), List.mem_of_getElem? (i := 1133) (by decide +kernel), List.mem_of_getElem? (i := 1134) (by decide +kernel)⟩
theorem lw_p52 : lw_okq (⟨"ChannelMachineModel", "passes", "(I)Z"⟩, 45) := ⟨⟨by decide +kernel, by decide +kernel⟩, List.mem_of_getElem? (i := 962) (by decide +kernel), List.mem_of_getElem? (i := 1137) (by decide +kernel), List.mem_of_getElem? (i := 1138) (by decide +kernel)⟩
theorem lw_p53 : lw_okq (⟨"ChannelMachineModel", "look", "()I"⟩, 45) := ⟨⟨by decide +kernel, by decide +kernel⟩, List.mem_of_getElem? (i := 962) (by decide +kernel), List.mem_of_getElem? (i := 1141) (by decide +kernel), List.mem_of_getElem? (i := 1142) (by decide +kernel)⟩
theorem lw_p54 : lw_okq (⟨"ChannelMachineModel", "goOn", "()Z"⟩, 45) := ⟨⟨by decide +kernel, by decide +kernel⟩, List.mem_of_getElem? (i := 962) (by decide +kernel), List.mem_of_getElem? (i := 1145) (by decide +kernel), List.mem_of_getElem? (i := 1146) (by decide +kernel)⟩
theorem lw_p55 : lw_okq (⟨"ChannelMachineModel", "emit", "(I)V"⟩, 45) := ⟨⟨by decide +kernel, by decide +kernel⟩, List.mem_of_getElem? (i := 962) (by decide +kernel), List.mem_of_getElem? (i := 1149) (by decide +kernel), List.mem_of_getElem? (i := 1150) (by decide +kernel)⟩
theorem lw_p56 : lw_okq (⟨"ChannelMachineModel", "emit2", "(II)V"⟩, 45) := ⟨⟨by decide +kernel, by decide +kernel⟩, List.mem_of_getElem? (i := 962) (by decide +kernel), List.mem_of_getElem? (i := 1153) (by decide +kernel), List.mem_of_getElem? (i := 1154) (by decide +kernel)⟩
theorem lw_p57 : lw_okq (⟨"ChannelMachineModel", "guard", "(I)Z"⟩, 45) := ⟨⟨by decide +kernel, by decide +kernel⟩, List.mem_of_getElem? (i := 962) (by decide +kernel), List.mem_of_getElem? (i := 1157) (by decide +kernel), List.mem_of_getElem? (i := 1158) (by decide +kernel)⟩
theorem lw_p58 : lw_okq (⟨"ChannelMachineModel", "expression", "()Z"⟩, 45) := ⟨⟨by decide +kernel, by decide +kernel⟩, List.mem_of_getElem? (i := 962) (by decide +kernel), List.mem_of_getElem? (i := 1161) (by decide +kernel), List.mem_of_getElem? (i := 1162) (by decide +kernel)⟩
theorem lw_p59 : lw_okq (⟨"ChannelMachineModel", "isVariable", "()Z"⟩, 45) := ⟨⟨by decide +kernel, by decide +kernel⟩, List.mem_of_getElem? (i := 962) (by decide +kernel), List.mem_of_getElem? (i := 1165) (by decide +kernel), List.mem_of_getElem? (i := 1166) (by decide +kernel)⟩
theorem lw_p60 : lw_okq (⟨"ChannelMachineModel", "push", "(II)V"⟩, 45) := ⟨⟨by decide +kernel, by decide +kernel⟩, List.mem_of_getElem? (i := 962) (by decide +kernel), List.mem_of_getElem? (i := 1169) (by decide +kernel), List.mem_of_getElem? (i := 1170) (by decide +kernel)⟩
theorem lw_p61 : lw_okq (⟨"ChannelMachineModel", "write", "(II)V"⟩, 45) := ⟨⟨by decide +kernel, by decide +kernel⟩, List.mem_of_getElem? (i := 962) (by decide +kernel), List.mem_of_getElem? (i := 1176) (by decide +kernel), List.mem_of_getElem? (i := 1177) (by decide +kernel)⟩
theorem lw_p62 : lw_okq (⟨"ChannelMachineModel", "start", "(I)I"⟩, 45) := ⟨⟨by decide +kernel, by decide +kernel⟩, List.mem_of_getElem? (i := 962) (by decide +kernel), List.mem_of_getElem? (i := 1183) (by decide +kernel), List.mem_of_getElem? (i := 1184) (by decide +kernel)⟩
theorem lw_p63 : lw_okq (⟨"ChannelMachineModel", "begin", "(II)V"⟩, 45) := ⟨⟨by decide +kernel, by decide +kernel⟩, List.mem_of_getElem? (i := 962) (by decide +kernel), List.mem_of_getElem? (i := 1187) (by decide +kernel), List.mem_of_getElem? (i := 1188) (by decide +kernel)⟩
def lw_privs_4 : List (MethodName × Nat) := [(⟨"ChannelMachineModel", "bad", "(Z)Z"⟩, 45), (⟨"ChannelMachineModel", "fail", "(I)I"⟩, 45), (⟨"ChannelMachineModel", "read", "()Z"⟩, 45), (⟨"ChannelMachineModel", "closes", "()Z"⟩, 45), (⟨"ChannelMachineModel", "passes", "(I)Z"⟩, 45), (⟨"ChannelMachineModel", "look", "()I"⟩, 45), (⟨"ChannelMachineModel", "goOn", "()Z"⟩, 45), (⟨"ChannelMachineModel", "emit", "(I)V"⟩, 45), (⟨"ChannelMachineModel", "emit2", "(II)V"⟩, 45), (⟨"ChannelMachineModel", "guard", "(I)Z"⟩, 45), (⟨"ChannelMachineModel", "expression", "()Z"⟩, 45), (⟨"ChannelMachineModel", "isVariable", "()Z"⟩, 45), (⟨"ChannelMachineModel", "push", "(II)V"⟩, 45), (⟨"ChannelMachineModel", "write", "(II)V"⟩, 45), (⟨"ChannelMachineModel", "start", "(I)I"⟩, 45), (⟨"ChannelMachineModel", "begin", "(II)V"⟩, 45)]
theorem lw_r4 : ∀ q ∈ lw_privs_4, lw_okq q := List.forall_mem_cons.mpr ⟨lw_p48, List.forall_mem_cons.mpr ⟨lw_p49, List.forall_mem_cons.mpr ⟨lw_p50, List.forall_mem_cons.mpr ⟨lw_p51, List.forall_mem_cons.mpr ⟨lw_p52, List.forall_mem_cons.mpr ⟨lw_p53, List.forall_mem_cons.mpr ⟨lw_p54, List.forall_mem_cons.mpr ⟨lw_p55, List.forall_mem_cons.mpr ⟨lw_p56, List.forall_mem_cons.mpr ⟨lw_p57, List.forall_mem_cons.mpr ⟨lw_p58, List.forall_mem_cons.mpr ⟨lw_p59, List.forall_mem_cons.mpr ⟨lw_p60, List.forall_mem_cons.mpr ⟨lw_p61, List.forall_mem_cons.mpr ⟨lw_p62, List.forall_mem_cons.mpr ⟨lw_p63, fun _ h => absurd h List.not_mem_nil⟩⟩⟩⟩⟩⟩⟩⟩⟩⟩⟩⟩⟩⟩⟩⟩
theorem lw_p64 : lw_okq (⟨"ChannelMachineModel", "make", "(II)V"⟩, 45) := ⟨⟨by decide +kernel, by decide +kernel⟩, List.mem_of_getElem? (i := 962) (by decide +kernel), List.mem_of_getElem? (i := 1191) (by decide +kernel), List.mem_of_getElem? (i := 1192) (by decide +kernel)⟩
theorem lw_p65 : lw_okq (⟨"ChannelMachineModel", "put", "(I)V"⟩, 45) := ⟨⟨by decide +kernel, by decide +kernel⟩, List.mem_of_getElem? (i := 962) (by decide +kernel), List.mem_of_getElem? (i := 1195) (by decide +kernel), List.mem_of_getElem? (i := 1196) (by decide +kernel)⟩
theorem lw_p66 : lw_okq (⟨"ChannelMachineModel", "outcome", "(II)I"⟩, 45) := ⟨⟨by decide +kernel, by decide +kernel⟩, List.mem_of_getElem? (i := 962) (by decide +kernel), List.mem_of_getElem? (i := 1203) (by decide +kernel), List.mem_of_getElem? (i := 1204) (by decide +kernel)⟩
theorem lw_p67 : lw_okq (⟨"ChannelMachineModel", "settle", "()V"⟩, 45) := ⟨⟨by decide +kernel, by decide +kernel⟩, List.mem_of_getElem? (i := 962) (by decide +kernel), List.mem_of_getElem? (i := 1207) (by decide +kernel), List.mem_of_getElem? (i := 1208) (by decide +kernel)⟩
theorem lw_p68 : lw_okq (⟨"ChannelMachineModel", "finish", "(I)V"⟩, 45) := ⟨⟨by decide +kernel, by decide +kernel⟩, List.mem_of_getElem? (i := 962) (by decide +kernel), List.mem_of_getElem? (i := 1214) (by decide +kernel), List.mem_of_getElem? (i := 1215) (by decide +kernel)⟩
theorem lw_p69 : lw_okq (⟨"ChannelMachineModel", "grow", "()Z"⟩, 45) := ⟨⟨by decide +kernel, by decide +kernel⟩, List.mem_of_getElem? (i := 962) (by decide +kernel), List.mem_of_getElem? (i := 1218) (by decide +kernel), List.mem_of_getElem? (i := 1219) (by decide +kernel)⟩
theorem lw_p70 : lw_okq (⟨"ChannelMachineModel", "due", "()I"⟩, 45) := ⟨⟨by decide +kernel, by decide +kernel⟩, List.mem_of_getElem? (i := 962) (by decide +kernel), List.mem_of_getElem? (i := 1223) (by decide +kernel), List.mem_of_getElem? (i := 1224) (by decide +kernel)⟩
theorem lw_p71 : lw_okq (⟨"ChannelMachineModel", "act", "()V"⟩, 45) := ⟨⟨by decide +kernel, by decide +kernel⟩, List.mem_of_getElem? (i := 962) (by decide +kernel), List.mem_of_getElem? (i := 1227) (by decide +kernel), List.mem_of_getElem? (i := 1228) (by decide +kernel)⟩
theorem lw_p72 : lw_okq (⟨"ChannelMachineModel", "value", "(I)I"⟩, 45) := ⟨⟨by decide +kernel, by decide +kernel⟩, List.mem_of_getElem? (i := 962) (by decide +kernel), List.mem_of_getElem? (i := 1231) (by decide +kernel), List.mem_of_getElem? (i := 1232) (by decide +kernel)⟩
theorem lw_p73 : lw_okq (⟨"ChannelMachineModel", "binary", "(III)I"⟩, 45) := ⟨⟨by decide +kernel, by decide +kernel⟩, List.mem_of_getElem? (i := 962) (by decide +kernel), List.mem_of_getElem? (i := 1235) (by decide +kernel), List.mem_of_getElem? (i := 1236) (by decide +kernel)⟩
theorem lw_p74 : lw_okq (⟨"ChannelMachineModel", "parallel", "(II)V"⟩, 45) := ⟨⟨by decide +kernel, by decide +kernel⟩, List.mem_of_getElem? (i := 962) (by decide +kernel), List.mem_of_getElem? (i := 1239) (by decide +kernel), List.mem_of_getElem? (i := 1240) (by decide +kernel)⟩
theorem lw_p75 : lw_okq (⟨"ChannelMachineModel", "output", "(III)V"⟩, 45) := ⟨⟨by decide +kernel, by decide +kernel⟩, List.mem_of_getElem? (i := 962) (by decide +kernel), List.mem_of_getElem? (i := 1243) (by decide +kernel), List.mem_of_getElem? (i := 1244) (by decide +kernel)⟩
theorem lw_p76 : lw_okq (⟨"ChannelMachineModel", "hand", "(II)V"⟩, 45) := ⟨⟨by decide +kernel, by decide +kernel⟩, List.mem_of_getElem? (i := 962) (by decide +kernel), List.mem_of_getElem? (i := 1247) (by decide +kernel), List.mem_of_getElem? (i := 1248) (by decide +kernel)⟩
theorem lw_p77 : lw_okq (⟨"ChannelMachineModel", "ready", "(I)Z"⟩, 45) := ⟨⟨by decide +kernel, by decide +kernel⟩, List.mem_of_getElem? (i := 962) (by decide +kernel), List.mem_of_getElem? (i := 1251) (by decide +kernel), List.mem_of_getElem? (i := 1252) (by decide +kernel)⟩
theorem lw_p78 : lw_okq (⟨"ChannelMachineModel", "input", "(II)V"⟩, 45) := ⟨⟨by decide +kernel, by decide +kernel⟩, List.mem_of_getElem? (i := 962) (by decide +kernel), List.mem_of_getElem? (i := 1255) (by decide +kernel), List.mem_of_getElem? (i := 1256) (by decide +kernel)⟩
theorem lw_p79 : lw_okq (⟨"ChannelMachineModel", "await", "(IIII)V"⟩, 45) := ⟨⟨by decide +kernel, by decide +kernel⟩, List.mem_of_getElem? (i := 962) (by decide +kernel), List.mem_of_getElem? (i := 1259) (by decide +kernel), List.mem_of_getElem? (i := 1260) (by decide +kernel)⟩
def lw_privs_5 : List (MethodName × Nat) := [(⟨"ChannelMachineModel", "make", "(II)V"⟩, 45), (⟨"ChannelMachineModel", "put", "(I)V"⟩, 45), (⟨"ChannelMachineModel", "outcome", "(II)I"⟩, 45), (⟨"ChannelMachineModel", "settle", "()V"⟩, 45), (⟨"ChannelMachineModel", "finish", "(I)V"⟩, 45), (⟨"ChannelMachineModel", "grow", "()Z"⟩, 45), (⟨"ChannelMachineModel", "due", "()I"⟩, 45), (⟨"ChannelMachineModel", "act", "()V"⟩, 45), (⟨"ChannelMachineModel", "value", "(I)I"⟩, 45), (⟨"ChannelMachineModel", "binary", "(III)I"⟩, 45), (⟨"ChannelMachineModel", "parallel", "(II)V"⟩, 45), (⟨"ChannelMachineModel", "output", "(III)V"⟩, 45), (⟨"ChannelMachineModel", "hand", "(II)V"⟩, 45), (⟨"ChannelMachineModel", "ready", "(I)Z"⟩, 45), (⟨"ChannelMachineModel", "input", "(II)V"⟩, 45), (⟨"ChannelMachineModel", "await", "(IIII)V"⟩, 45)]
theorem lw_r5 : ∀ q ∈ lw_privs_5, lw_okq q := List.forall_mem_cons.mpr ⟨lw_p64, List.forall_mem_cons.mpr ⟨lw_p65, List.forall_mem_cons.mpr ⟨lw_p66, List.forall_mem_cons.mpr ⟨lw_p67, List.forall_mem_cons.mpr ⟨lw_p68, List.forall_mem_cons.mpr ⟨lw_p69, List.forall_mem_cons.mpr ⟨lw_p70, List.forall_mem_cons.mpr ⟨lw_p71, List.forall_mem_cons.mpr ⟨lw_p72, List.forall_mem_cons.mpr ⟨lw_p73, List.forall_mem_cons.mpr ⟨lw_p74, List.forall_mem_cons.mpr ⟨lw_p75, List.forall_mem_cons.mpr ⟨lw_p76, List.forall_mem_cons.mpr ⟨lw_p77, List.forall_mem_cons.mpr ⟨lw_p78, List.forall_mem_cons.mpr ⟨lw_p79, fun _ h => absurd h List.not_mem_nil⟩⟩⟩⟩⟩⟩⟩⟩⟩⟩⟩⟩⟩⟩⟩⟩
theorem lw_p80 : lw_okq (⟨"ChannelMachineModel", "alternative", "(II)V"⟩, 45) := ⟨⟨by decide +kernel, by decide +kernel⟩, List.mem_of_getElem? (i := 962) (by decide +kernel), List.mem_of_getElem? (i := 1263) (by decide +kernel), List.mem_of_getElem? (i := 1264) (by decide +kernel)⟩
def lw_privs_6 : List (MethodName × Nat) := [(⟨"ChannelMachineModel", "alternative", "(II)V"⟩, 45)]
theorem lw_r6 : ∀ q ∈ lw_privs_6, lw_okq q := List.forall_mem_cons.mpr ⟨lw_p80, fun _ h => absurd h List.not_mem_nil⟩
def lw_privs : List (MethodName × Nat) := lw_privs_1 ++ (lw_privs_2 ++ (lw_privs_3 ++ (lw_privs_4 ++ (lw_privs_5 ++ (lw_privs_6)))))
def lw_tbl : List Cond := k2_sels lw_privs ++ tables_1
theorem lw_privs_ok : ∀ q ∈ lw_privs, lw_okq q := by
  show ∀ q ∈ lw_privs_1 ++ (lw_privs_2 ++ (lw_privs_3 ++ (lw_privs_4 ++ (lw_privs_5 ++ (lw_privs_6))))), lw_okq q
  exact List.forall_mem_append.mpr ⟨lw_r1, List.forall_mem_append.mpr ⟨lw_r2, List.forall_mem_append.mpr ⟨lw_r3, List.forall_mem_append.mpr ⟨lw_r4, List.forall_mem_append.mpr ⟨lw_r5, lw_r6⟩⟩⟩⟩⟩
end
section
/-! ===== BEGIN words of one list among another's, by their places ===== -/
theorem goodIn_r {big : List Cond} (ws : List Cond) (ps : List Nat) (hp : ws = ps.filterMap (fun i => big[i]?)) (h : ws.all goodWord = true) : GoodIn big ws := by
  intro w hw
  have h1 := List.all_eq_true.mp h w hw
  rw [hp] at hw
  obtain ⟨i, -, hi⟩ := List.mem_filterMap.mp hw
  have hm : w ∈ big := by first | exact List.mem_of_getElem? hi | exact List.getElem?_mem hi
  exact ⟨hm, good_of_word h1⟩
theorem goodIn_app {big a b : List Cond} (ha : GoodIn big a) (hb : GoodIn big b) : GoodIn big (a ++ b) := fun w h => (List.mem_append.mp h).elim (ha w) (hb w)
theorem goodIn_ca {big a b : List Cond} {c : Cond} (ha : GoodIn big (c :: a)) (hb : GoodIn big b) : GoodIn big (c :: (a ++ b)) := fun w h => (List.mem_cons.mp h).elim (fun e => ha w (List.mem_cons.mpr (Or.inl e))) (fun h => (List.mem_append.mp h).elim (fun h => ha w (List.mem_cons.mpr (Or.inr h))) (hb w))
theorem goodIn_sub {big ws : List Cond} (hm : ∀ w ∈ ws, w ∈ big) (h : ws.all goodWord = true) : GoodIn big ws := fun w hw => ⟨hm w hw, good_of_word (List.all_eq_true.mp h w hw)⟩
/-! ===== END ===== -/

/-! ===== BEGIN exceptions that leave a method, and their catching by the caller (launches without stack traces) ===== -/
section VXA
/-! The laws vx_back, vx_callV, vx_callS, vx_callSW, vx_throw0, vx_throwS follow proofs of the library, with one case more: JvmDerived/Free/Laws.lean (Back.of_free), Shelf42/LK1.lean (callV, callS), Shelf/KitTraced.lean (throwNew0V, throwNewS). -/
/-- where a method has thrown q: the class by its name, the cell, what was written, the world -/
def vx_T (XC : String → State → State → Prop) (st : State) (q : Addr) (t : State) (mc ms : Nat) (free : Addr → Prop) : Prop :=
  ∃ (E : String) (ce : Cell) (L : List Loc), XC E st t ∧ t.heap[q]? = some ce ∧ ce.vm = .none ∧ st.vm.findClass E = some ce.cls ∧ st.WarmedH t.vm ∧ st.sameButNew ({ t with vm := st.vm } : State) L mc ms ∧ ∀ z ∈ L, free z.base
def vx_Q (Qc : Array Value → State → Outcome → State → Prop) (XC : String → State → State → Prop) (mc ms : Nat) (free : Addr → Prop) : Array Value → State → Outcome → State → Prop := fun a st o t =>
  (Qc a st o t ∧ ∃ L, FrameEnd st o t L mc ms ∧ ∀ q ∈ L, free q.base) ∨ ∃ q, o = .threw q ∧ vx_T XC st q t mc ms free
/-- a callee that returns or throws -/
def vx_Met (l : Launch) (y : MethodName) (ws : List Cond) (rm : Room) (Pc : Array Value → State → Prop) (Qc : Array Value → State → Outcome → State → Prop) (XC : String → State → State → Prop) (mc ms : Nat) (free : Addr → Prop) : Prop :=
  MetFree l y (headSpec ws rm) Pc (fun _ _ _ _ _ => True) (vx_Q Qc XC mc ms free)
def vx_Post (XC : String → State → State → Prop) (mc ms : Nat) (free : Addr → Prop) : Pt → Array Value → Addr → Pt → Prop := fun A a q B =>
  ∃ (g : JFrame) (mk : MethodId) (t : State) (L : List Loc) (E : String) (ce : Cell), B.U.heap = t.heap ∧ B.U.vm = t.vm ∧ XC E (A.U.calling g mk a) t ∧ t.heap[q]? = some ce ∧ ce.vm = .none ∧ A.U.vm.findClass E = some ce.cls ∧ B.locs = A.locs ++ L ∧ (∀ z ∈ L, free z.base) ∧ B.cells = A.cells + mc ∧ B.slots = A.slots + ms
def vx_Back (l : Launch) (R : Room) (p : Program) (e : Env) (below : List Frame) (s : State) (sargs : Array Value) (y : MethodName) (len W9 : Nat)
    (Pre : Pt → Array Value → Prop) (Post : Pt → Array Value → Option Value → Pt → Prop) (PostX : Pt → Array Value → Addr → Pt → Prop) : Prop :=
  ∀ (m : MethodId) (meth : Method) (c : Code) (A : Pt) (g : JFrame) (ig : Instr) (mk : MethodId) (a : Array Value),
    Stand p l e R s m sargs below meth c A.U A.locs A.cells A.slots → g.method = m → g.locals.size = c.maxLocals → decode c.code g.pc = .ok (ig, len) →
    2 * g.monitorRoom + (g.stack.map fun v => v.category).sum ≤ W9 → A.U.methodNamed? y = some mk → Pre A a →
    (∃ (v : Option Value) (B : Pt), Stand p l e R s m sargs below meth c B.U B.locs B.cells B.slots ∧ Post A a v B ∧
      Steps p.tables e below (doInvoke e (A.U.setTop g) [] mk a).1 (B.U.setTop { g with pc := g.pc + len, stack := v.toList ++ g.stack })) ∨
    (∃ (q : Addr) (B : Pt), Stand p l e R s m sargs below meth c B.U B.locs B.cells B.slots ∧ PostX A a q B ∧
      Steps p.tables e below (doInvoke e (A.U.setTop g) [] mk a).1 ((B.U.setTop g).pushFrame (.throwing q)))
section Payer
variable {l : Launch} {R : Room} {p : Program} {e : Env} {below : List Frame} {s : State} {sargs : Array Value} {y : MethodName} {len W9 : Nat}
theorem vx_back {ws : List Cond} {rm : Room} {Pc : Array Value → State → Prop} {Qc : Array Value → State → Outcome → State → Prop} {XC : String → State → State → Prop} {mc ms : Nat} {free : Addr → Prop} {bytes : ByteArray} {maxL : Nat} {ret : Option FieldType}
    (hM : vx_Met l y ws rm Pc Qc XC mc ms free) (hblind : FrameBlind Pc) (hrc : rm.cells = mc) (hrs : rm.slots = ms)
    (hframes : rm.frames + 1 ≤ R.frames) (hlocals : W9 + (maxL + 11) + rm.locals ≤ R.locals)
    (hws : ∀ w ∈ ws, ∀ a' U, s.WarmedH U.vm → w.before a' U = true) (hcode : Cond.code y bytes maxL ret ∈ ws) (hinit : ∀ a' U, s.WarmedH U.vm → (Cond.initialized y.cls).before a' U = true) :
    vx_Back l R p e below s sargs y len W9 (PreOf R mc ms Pc) (PostOf Qc mc ms free) (vx_Post XC mc ms free) := by
  intro m meth c A g ig mk a X hg hsize hdg hW hn hp
  have h1 : (headSpec ws rm).pre.before a A.U = true := atoms_intro fun w hw => hws w hw _ _ X.warmed
  have h2 : (Cond.code y bytes maxL ret).before a A.U = true := hws _ hcode _ _ X.warmed
  have h3 : (Cond.initialized y.cls).before a A.U = true := hinit _ _ X.warmed
  have h4 : A.cells + (headSpec ws rm).room.cells ≤ R.cells := by rw [show (headSpec ws rm).room.cells = mc from hrc]; exact hp.1
  have h5 : A.slots + (headSpec ws rm).room.slots ≤ R.slots := by rw [show (headSpec ws rm).room.slots = ms from hrs]; exact hp.2.1
  have hPc : Pc a (A.U.calling g mk a) := hblind _ _ _ _ hp.2.2
  obtain ⟨U, Ls, c0, s0⟩ := A
  dsimp only [Pt.U, Pt.locs, Pt.cells, Pt.slots] at h1 h2 h3 h4 h5 X hn hPc ⊢
  obtain ⟨methY, cY, hmY, hcY, -, hlY, -, -, -, -⟩ := Cond.code_spec hn h2
  obtain ⟨kY, hkY, -⟩ := className_of_methodNamed hn
  have hinitY : kY.init = .initialized := Cond.initialized_spec (findClass_of_methodNamed hn) hkY h3
  have h : At U g.method c below := by rw [hg]; exact X.here
  have hlocals9 : W9 + (maxL + 11) + (headSpec ws rm).room.locals ≤ R.locals := hlocals
  have happ : (headSpec ws rm).appliesLoose y e.platform (U.calling g mk a) = true :=
    Spec.appliesLoose_calling (g := g) h hdg hn hkY hinitY
      (X.room_calling (g := g) (R' := (headSpec ws rm).room) hsize hmY hcY hframes (by rw [hlY]; omega) h4 h5) h1
  obtain ⟨mid, hmid⟩ := h.above
  have hfr : (U.setTop g).frames = (.java g :: mid) ++ below := by rw [State.frames_setTop' g h.top, hmid]; rfl
  obtain ⟨o, s₂, hsteps, -, hend, hq⟩ := Steps.callFree hM p X.admits X.cas X.clock (acts := []) hfr happ hPc trivial
  have hq' : vx_Q Qc XC mc ms free a (U.calling g mk a) o s₂ := hq
  rw [State.frames_setTop' g h.top] at hend
  obtain ⟨g₀, hg0⟩ := Option.isSome_iff_exists.mp h.top
  obtain ⟨r, hr⟩ := State.topJava?_eq_some.mp hg0
  have hr' : (({ U with heap := s₂.heap, slotsUsed := s₂.slotsUsed } : State).setVm s₂.vm).frames = .java g₀ :: r := hr
  rcases hq' with ⟨hqc, L, hfe, hL⟩ | ⟨q, rfl, E, ce, L, hx, hce, hcv, hcl, hW₂, hsm, hL⟩
  · obtain ⟨⟨v, rfl⟩, hW₂, e2, q2, q3, q4, q5, q6⟩ := id hfe
    have e3 : s₂ = ({ (U.calling g mk a).setFrames s₂.frames with heap := s₂.heap, slotsUsed := s₂.slotsUsed } : State).setVm s₂.vm := by
      have : s₂ = ({ s₂ with vm := (U.calling g mk a).vm } : State).setVm s₂.vm := rfl
      rw [e2] at this
      exact this
    obtain ⟨c₂, i₂, len₂, hc₂, hd₂, hf₂⟩ := hend
    have hW' : U.WarmedH s₂.vm := hW₂
    have hcc : c₂ = c := by
      have h1 : s₂.code? g.method = U.code? g.method := by
        rw [State.code?_eq, State.code?_eq, hW'.alike.method?]
      exact Option.some.inj (hc₂.symm.trans (h1.trans h.code))
    subst hcc
    have hlen : len₂ = len := by rw [hdg] at hd₂; cases hd₂; rfl
    subst hlen
    have hs₂ : s₂ = (({ U with heap := s₂.heap, slotsUsed := s₂.slotsUsed } : State).setVm s₂.vm).setTop { g with pc := g.pc + len₂, stack := v.toList ++ g.stack } := by
      refine e3.trans ?_
      rw [hf₂, State.calling_eq h.top, State.setFrames_setFrames, State.setTop_of_frames _ hr', hr]
      rfl
    have hsame : U.sameButNew ({ U with heap := s₂.heap, slotsUsed := s₂.slotsUsed } : State) L mc ms := by
      refine ⟨?_, q2, q3, q4, q5, q6⟩
      obtain ⟨t, ht, -⟩ := State.frames_cons hr
      show ({ U with heap := s₂.heap, slotsUsed := s₂.slotsUsed } : State) = { U.setFrames U.frames with heap := s₂.heap, slotsUsed := s₂.slotsUsed }
      rw [State.setFrames_self ht]
    subst hg
    refine Or.inl ⟨v, ⟨(({ U with heap := s₂.heap, slotsUsed := s₂.slotsUsed } : State).setVm s₂.vm), Ls ++ L, c0 + mc, s0 + ms⟩,
      ⟨X.admits, X.cas, X.clock, X.frames, X.room, X.hears, X.method, X.code, (X.here.setHeapUsed s₂.heap s₂.slotsUsed).setVm hW'.alike, X.tail, State.WarmedH.trans X.warmed hW', X.limits, X.bytes, X.same.trans (hsame.setVm s.vm)⟩,
      ⟨g, mk, s₂, L, rfl, rfl, hqc, rfl, hL, rfl, rfl⟩, ?_⟩
    show Steps p.tables e below _ ((({ U with heap := s₂.heap, slotsUsed := s₂.slotsUsed } : State).setVm s₂.vm).setTop { g with pc := g.pc + len₂, stack := v.toList ++ g.stack })
    rw [← hs₂]
    exact hsteps
  · obtain ⟨e2, q2, q3, q4, q5, q6⟩ := id hsm
    have e3 : s₂ = ({ (U.calling g mk a).setFrames s₂.frames with heap := s₂.heap, slotsUsed := s₂.slotsUsed } : State).setVm s₂.vm := by
      have : s₂ = ({ s₂ with vm := (U.calling g mk a).vm } : State).setVm s₂.vm := rfl
      rw [e2] at this
      exact this
    have hf₂ : s₂.frames = .throwing q :: .java g :: U.frames.tail := hend
    have hW' : U.WarmedH s₂.vm := hW₂
    have hs₂ : s₂ = ((({ U with heap := s₂.heap, slotsUsed := s₂.slotsUsed } : State).setVm s₂.vm).setTop g).pushFrame (.throwing q) := by
      refine e3.trans ?_
      rw [hf₂, State.calling_eq h.top, State.setFrames_setFrames, State.pushFrame, State.frames_setTop _ hr', State.setTop_of_frames _ hr', State.setFrames_setFrames, hr]
      rfl
    have hsame : U.sameButNew ({ U with heap := s₂.heap, slotsUsed := s₂.slotsUsed } : State) L mc ms := by
      refine ⟨?_, q2, q3, q4, q5, q6⟩
      obtain ⟨t, ht, -⟩ := State.frames_cons hr
      show ({ U with heap := s₂.heap, slotsUsed := s₂.slotsUsed } : State) = { U.setFrames U.frames with heap := s₂.heap, slotsUsed := s₂.slotsUsed }
      rw [State.setFrames_self ht]
    subst hg
    refine Or.inr ⟨q, ⟨(({ U with heap := s₂.heap, slotsUsed := s₂.slotsUsed } : State).setVm s₂.vm), Ls ++ L, c0 + mc, s0 + ms⟩,
      ⟨X.admits, X.cas, X.clock, X.frames, X.room, X.hears, X.method, X.code, (X.here.setHeapUsed s₂.heap s₂.slotsUsed).setVm hW'.alike, X.tail, State.WarmedH.trans X.warmed hW', X.limits, X.bytes, X.same.trans (hsame.setVm s.vm)⟩,
      ⟨g, mk, s₂, L, E, ce, rfl, rfl, hx, hce, hcv, hcl, rfl, hL, rfl, rfl⟩, ?_⟩
    show Steps p.tables e below _ (((({ U with heap := s₂.heap, slotsUsed := s₂.slotsUsed } : State).setVm s₂.vm).setTop g).pushFrame (.throwing q))
    rw [← hs₂]
    exact hsteps
end Payer
section Calls
variable {p : Program} {l : Launch} {e : Env} {R : Room} {s : State} {m : MethodId} {args : Array Value} {below : List Frame} {meth : Method} {c : Code} {T : State} {locs : List Loc} {cells slots : Nat}
theorem vx_callV (X : Stand p l e R s m args below meth c T locs cells slots) (hexec : p.tables.exec = Jvm.exec) {own C : String} {index : Nat} {y : MethodName} {bytes : ByteArray} {maxL : Nat} {ret : Option FieldType}
    (hown : s.vm.findClass own = some m.cls) (hlink : (Cond.methodLink own index y).before args s = true) (hinst : (Cond.instanceMethod y).before args s = true) (hsel : (Cond.selects C y y).before args s = true)
    (hcode : (Cond.code y bytes maxL ret).before args s = true) (hy : y.cls ≠ "java/lang/invoke/MethodHandle" ∧ y.cls ≠ "java/lang/invoke/VarHandle")
    {W9 : Nat} {Pre : Pt → Array Value → Prop} {Post : Pt → Array Value → Option Value → Pt → Prop} {PostX : Pt → Array Value → Addr → Pt → Prop} (hK : vx_Back l R p e below s args y 3 W9 Pre Post PostX)
    {b : Addr} {cellB : Cell} (hcell : T.heap[b]? = some cellB) (hobj : cellB.vm.isStatics = false) (hcls : s.vm.findClass C = some cellB.cls)
    {g : JFrame} (hg : g.method = m) (hsize : g.locals.size = c.maxLocals) {argsL rest : List Value} (hlen : ∀ sig, parseMethodDescriptor y.desc = some sig → argsL.length = sig.parameters.length)
    (hstack : g.stack = argsL.reverse ++ .ref b :: rest) (hW : 2 * g.monitorRoom + (rest.map fun v => v.category).sum ≤ W9) (hdg : decode c.code g.pc = .ok (.invokevirtual index, 3))
    (hpre : ∀ vm₁, s.WarmedH vm₁ → Pre ⟨T.setVm vm₁, locs, cells, slots⟩ (Value.ref b :: argsL).toArray) :
    (∃ (v : Option Value) (vm₁ : Vm) (B : Pt), s.WarmedH vm₁ ∧ Stand p l e R s m args below meth c B.U B.locs B.cells B.slots ∧ Post ⟨T.setVm vm₁, locs, cells, slots⟩ (Value.ref b :: argsL).toArray v B ∧
      ∀ target, Steps p.tables e below (B.U.setTop { g with pc := g.pc + 3, stack := v.toList ++ rest }) target → Steps p.tables e below (T.setTop g) target) ∨
    (∃ (q : Addr) (vm₁ : Vm) (B : Pt), s.WarmedH vm₁ ∧ Stand p l e R s m args below meth c B.U B.locs B.cells B.slots ∧ PostX ⟨T.setVm vm₁, locs, cells, slots⟩ (Value.ref b :: argsL).toArray q B ∧
      Steps p.tables e below (T.setTop g) ((B.U.setTop { g with stack := rest }).pushFrame (.throwing q))) := by
  obtain ⟨mk, methM, hnamed, hmethM, hstM, habM⟩ := Cond.instanceMethod_spec hinst
  obtain ⟨methM', cM, hmethM', -, -, -, -, -, -, hsigM⟩ := Cond.code_spec hnamed hcode
  cases hmethM.symm.trans hmethM'
  obtain ⟨c2, r2, m2, q1, q2, q3, q4, kP, hkP, hkPi⟩ := Cond.selects_spec hsel
  cases hcls.symm.trans q1
  cases (State.methodFound?_of_named hnamed hy).symm.trans q2
  cases hnamed.symm.trans q3
  have hselP : selectMethod e.platform s.vm cellB.cls mk = .method mk := by rw [Launch.admits_selectMethod X.admits]; exact q4
  obtain ⟨vm₁, X₁, hstep₁⟩ := X.invokevirtual hexec hown hlink hnamed hmethM hstM hkP hkPi hy (a := b) (cell := cellB) hcell
    (fun z h => by rw [h] at hobj; cases hobj) hselP hmethM habM hkP hkPi (g := g) hg (argsL := argsL) (rest := rest) (hlen _ hsigM) hstack hdg
  rcases hK m meth c ⟨T.setVm vm₁, locs, cells, slots⟩ { g with stack := rest } (.invokevirtual index) mk (Value.ref b :: argsL).toArray X₁ hg hsize hdg hW (X₁.named hnamed) (hpre vm₁ X₁.warmed) with ⟨v, B, X', hpost, hsteps⟩ | ⟨q, B, X', hpost, hsteps⟩
  · exact Or.inl ⟨v, vm₁, B, X₁.warmed, X', hpost, fun target h => hstep₁ _ fun acts => by rw [doInvoke_state]; exact hsteps.trans h⟩
  · exact Or.inr ⟨q, vm₁, B, X₁.warmed, X', hpost, hstep₁ _ fun acts => by rw [doInvoke_state]; exact hsteps⟩
theorem vx_callS (X : Stand p l e R s m args below meth c T locs cells slots) (hexec : p.tables.exec = Jvm.exec) {own : String} {index : Nat} {y : MethodName} {bytes : ByteArray} {maxL : Nat} {ret : Option FieldType}
    (hown : s.vm.findClass own = some m.cls) (hlink : (Cond.methodLink own index y).before args s = true) (hstat : (Cond.static y).before args s = true) (hinit : (Cond.initialized y.cls).before args s = true)
    (hcode : (Cond.code y bytes maxL ret).before args s = true) (hy : y.cls ≠ "java/lang/invoke/MethodHandle" ∧ y.cls ≠ "java/lang/invoke/VarHandle")
    {W9 : Nat} {Pre : Pt → Array Value → Prop} {Post : Pt → Array Value → Option Value → Pt → Prop} {PostX : Pt → Array Value → Addr → Pt → Prop} (hK : vx_Back l R p e below s args y 3 W9 Pre Post PostX)
    {g : JFrame} (hg : g.method = m) (hsize : g.locals.size = c.maxLocals) {argsL rest : List Value} (hlen : ∀ sig, parseMethodDescriptor y.desc = some sig → argsL.length = sig.parameters.length)
    (hstack : g.stack = argsL.reverse ++ rest) (hW : 2 * g.monitorRoom + (rest.map fun v => v.category).sum ≤ W9) (hdg : decode c.code g.pc = .ok (.invokestatic index, 3))
    (hpre : ∀ vm₁, s.WarmedH vm₁ → Pre ⟨T.setVm vm₁, locs, cells, slots⟩ argsL.toArray) :
    (∃ (v : Option Value) (vm₁ : Vm) (B : Pt), s.WarmedH vm₁ ∧ Stand p l e R s m args below meth c B.U B.locs B.cells B.slots ∧ Post ⟨T.setVm vm₁, locs, cells, slots⟩ argsL.toArray v B ∧
      ∀ target, Steps p.tables e below (B.U.setTop { g with pc := g.pc + 3, stack := v.toList ++ rest }) target → Steps p.tables e below (T.setTop g) target) ∨
    (∃ (q : Addr) (vm₁ : Vm) (B : Pt), s.WarmedH vm₁ ∧ Stand p l e R s m args below meth c B.U B.locs B.cells B.slots ∧ PostX ⟨T.setVm vm₁, locs, cells, slots⟩ argsL.toArray q B ∧
      Steps p.tables e below (T.setTop g) ((B.U.setTop { g with stack := rest }).pushFrame (.throwing q))) := by
  obtain ⟨mk, hnamed⟩ := Cond.code_named hcode
  obtain ⟨methM, cM, hmethM, -, -, -, -, -, -, hsigM⟩ := Cond.code_spec hnamed hcode
  have hstatic : methM.isStatic = true := Cond.static_spec hnamed hmethM hstat
  obtain ⟨kP, hkP, -⟩ := className_of_methodNamed hnamed
  have hinitP : kP.init = .initialized := Cond.initialized_spec (findClass_of_methodNamed hnamed) hkP hinit
  obtain ⟨vm₁, X₁, hstep₁⟩ := X.invokestatic hexec hown hlink hnamed hmethM hstatic hkP hinitP hy (g := g) hg (argsL := argsL) (rest := rest) (hlen _ hsigM) hstack hdg
  rcases hK m meth c ⟨T.setVm vm₁, locs, cells, slots⟩ { g with stack := rest } (.invokestatic index) mk argsL.toArray X₁ hg hsize hdg hW (X₁.named hnamed) (hpre vm₁ X₁.warmed) with ⟨v, B, X', hpost, hsteps⟩ | ⟨q, B, X', hpost, hsteps⟩
  · exact Or.inl ⟨v, vm₁, B, X₁.warmed, X', hpost, fun target h => hstep₁ _ fun acts => by rw [doInvoke_state]; exact hsteps.trans h⟩
  · exact Or.inr ⟨q, vm₁, B, X₁.warmed, X', hpost, hstep₁ _ fun acts => by rw [doInvoke_state]; exact hsteps⟩
end Calls
theorem vx_cls {s : State} {T : State} {vm₁ : Vm} {E : String} {k : ClassId} (hW : s.WarmedH vm₁) (h : (T.setVm vm₁).vm.findClass E = some k) : s.vm.findClass E = some k := by
  have h1 : vm₁.findClass E = some k := h
  rw [hW.alike.findClass] at h1
  exact h1
/-- the method's frame g, with q thrown over it -/
def vx_W (p : Program) (l : Launch) (e : Env) (R : Room) (s : State) (m : MethodId) (args : Array Value) (below : List Frame) (meth : Method) (c : Code) (H : Heap) (locs : List Loc) (cells slots : Nat) (Q : State → Prop) (g : JFrame) (q : Addr) : Prop :=
  ∀ T : State, T.heap = H → Stand p l e R s m args below meth c T locs cells slots → ∃ t, Steps p.tables e below ((T.setTop g).pushFrame (.throwing q)) t ∧ Q t
def vx_Run (p : Program) (l : Launch) (e : Env) (R : Room) (s : State) (m : MethodId) (args : Array Value) (below : List Frame) (meth : Method) (c : Code) (H : Heap) (locs : List Loc) (cells slots mc ms : Nat) (g : JFrame) (rest : List Value) (Qa : State → Outcome → State → Prop) (XC : String → State → State → Prop) (free : Addr → Prop) : Prop :=
  ∀ T : State, T.heap = H → Stand p l e R s m args below meth c T locs cells slots →
    (∃ (v : Option Value) (st₀ t T' : State) (L : List Loc), st₀.heap = H ∧ Stand p l e R s m args below meth c T' (locs ++ L) (cells + mc) (slots + ms) ∧ (∀ q ∈ L, free q.base) ∧ T'.heap = t.heap ∧ T'.vm = t.vm ∧ Qa st₀ (.returned v) t ∧
      Goes p e below T g T' { g with pc := g.pc + 3, stack := v.toList ++ rest }) ∨
    (∃ (q : Addr) (st₀ t T' : State) (L : List Loc) (E : String) (ce : Cell), st₀.heap = H ∧ Stand p l e R s m args below meth c T' (locs ++ L) (cells + mc) (slots + ms) ∧ (∀ z ∈ L, free z.base) ∧ T'.heap = t.heap ∧ T'.vm = t.vm ∧ XC E st₀ t ∧ t.heap[q]? = some ce ∧ ce.vm = .none ∧ s.vm.findClass E = some ce.cls ∧
      Steps p.tables e below (T.setTop g) ((T'.setTop { g with stack := rest }).pushFrame (.throwing q)))
def vx_X {S : Type} (px : S → Prop) (B : String → S → State → Prop) (A : Nat → Prop) : String → State → State → Prop := fun E st t => ∃ u : S, px u ∧ B E u t ∧ va_F A st t
section Runs
variable {p : Program} {l : Launch} {e : Env} {R : Room} {s : State} {m : MethodId} {args : Array Value} {below : List Frame} {meth : Method} {c : Code} {H : Heap} {locs : List Loc} {cells slots : Nat}
variable {y : MethodName} {bytes cc : ByteArray} {maxL nL mc ms n index : Nat} {ret : Option FieldType} {ws : List Cond} {rm : Room} {Pc : Array Value → State → Prop} {Qc : Array Value → State → Outcome → State → Prop} {XC : String → State → State → Prop} {free : Addr → Prop} {Ts : List Cond} {own C : String} {b : Addr} {As rest : List Value} {g : JFrame}
theorem vx_callBack (cb : CallB R s args own index y bytes maxL ret ws rm mc ms n) (hM : vx_Met l y ws rm Pc Qc XC mc ms free) (hbl : FrameBlind Pc) : vx_Back l R p e below s args y 3 8 (PreOf R mc ms Pc) (PostOf Qc mc ms free) (vx_Post XC mc ms free) := by
  obtain ⟨hrc, hrs, hfr, hlo, hws, hcw, -, hini, -⟩ := cb
  exact vx_back (bytes := bytes) (maxL := maxL) (ret := ret) hM hbl hrc hrs hfr hlo hws hcw (fun a' U hW => word_at hW (Or.inl (by first | rfl | simp [Cond.onTables, Cond.keeps, Cond.steady])) hini)
theorem vx_runV (S : CallFix p m c cc nL s args Ts own) (hM : vx_Met l y ws rm Pc Qc XC mc ms free) (cw : CallW R s args own C index y bytes maxL ret ws rm mc ms n) (hp : PreV s H C b Pc As)
    (hg : g.method = m) (hn : As.length = n) (hsize : g.locals.size = nL) (hstack : g.stack = As.reverse ++ .ref b :: rest) (hW : 2 * g.monitorRoom + (rest.map fun v => v.category).sum ≤ 8) (hdg : decode cc g.pc = .ok (.invokevirtual index, 3)) (hf : cells + mc ≤ R.cells ∧ slots + ms ≤ R.slots) :
    vx_Run p l e R s m args below meth c H locs cells slots mc ms g rest (Qc (Value.ref b :: As).toArray) XC free := by
  have hK : vx_Back l R p e below s args y 3 8 (PreOf R mc ms Pc) (PostOf Qc mc ms free) (vx_Post XC mc ms free) := vx_callBack cw.1 hM hp.1
  obtain ⟨⟨-, -, -, -, -, -, hcode, -, hy, hlen, hl⟩, hin, hse⟩ := cw
  obtain ⟨hx, hb, hml, ho, -⟩ := S
  obtain ⟨-, ⟨cellB, hcB, hoB, hclB⟩, hPc⟩ := hp
  intro T hT X
  rcases vx_callV X hx (C := C) (bytes := bytes) (maxL := maxL) (ret := ret) ho hl hin hse hcode hy hK (by rw [hT]; exact hcB) hoB hclB hg (hsize.trans hml.symm) (argsL := As) (rest := rest) (fun sig h => hn.trans (hlen sig h)) hstack hW (by rw [hb]; exact hdg)
    (fun vm₁ hW₁ => ⟨hf.1, hf.2, hPc (T.setVm vm₁) hT hW₁⟩) with ⟨v, vm₁, ⟨U', l2, c2, s2⟩, hW₁, X', ⟨g', mk, t, L, e1, e2, hq, h1, hL, h2, h3⟩, st⟩ | ⟨q, vm₁, ⟨U', l2, c2, s2⟩, hW₁, X', ⟨g', mk, t, L, E, ce, e1, e2, hq, hce, hcv, hcl, h1, hL, h2, h3⟩, st⟩
  · dsimp only [Pt.U, Pt.locs, Pt.cells, Pt.slots] at X' e1 e2 h1 h2 h3 st
    subst h1; subst h2; subst h3
    exact Or.inl ⟨v, (T.setVm vm₁).calling g' mk (Value.ref b :: As).toArray, t, U', L, hT, X', hL, e1, e2, hq, st⟩
  · dsimp only [Pt.U, Pt.locs, Pt.cells, Pt.slots] at X' e1 e2 h1 h2 h3 st hcl
    subst h1; subst h2; subst h3
    exact Or.inr ⟨q, (T.setVm vm₁).calling g' mk (Value.ref b :: As).toArray, t, U', L, E, ce, hT, X', hL, e1, e2, hq, hce, hcv, vx_cls hW₁ hcl, st⟩
theorem vx_runS (S : CallFix p m c cc nL s args Ts own) (hM : vx_Met l y ws rm Pc Qc XC mc ms free) (cw : CallB R s args own index y bytes maxL ret ws rm mc ms n ∧ (Cond.static y).before args s = true) (hp : PreS s H Pc As)
    (hg : g.method = m) (hn : As.length = n) (hsize : g.locals.size = nL) (hstack : g.stack = As.reverse ++ rest) (hW : 2 * g.monitorRoom + (rest.map fun v => v.category).sum ≤ 8) (hdg : decode cc g.pc = .ok (.invokestatic index, 3)) (hf : cells + mc ≤ R.cells ∧ slots + ms ≤ R.slots) :
    vx_Run p l e R s m args below meth c H locs cells slots mc ms g rest (Qc As.toArray) XC free := by
  have hK : vx_Back l R p e below s args y 3 8 (PreOf R mc ms Pc) (PostOf Qc mc ms free) (vx_Post XC mc ms free) := vx_callBack cw.1 hM hp.1
  obtain ⟨⟨-, -, -, -, -, -, hcode, hini, hy, hlen, hl⟩, hstt⟩ := cw
  obtain ⟨hx, hb, hml, ho, -⟩ := S
  intro T hT X
  rcases vx_callS X hx (bytes := bytes) (maxL := maxL) (ret := ret) ho hl hstt hini hcode hy hK hg (hsize.trans hml.symm) (argsL := As) (rest := rest) (fun sig h => hn.trans (hlen sig h)) hstack hW (by rw [hb]; exact hdg)
    (fun vm₁ hW₁ => ⟨hf.1, hf.2, hp.2 (T.setVm vm₁) hT hW₁⟩) with ⟨v, vm₁, ⟨U', l2, c2, s2⟩, hW₁, X', ⟨g', mk, t, L, e1, e2, hq, h1, hL, h2, h3⟩, st⟩ | ⟨q, vm₁, ⟨U', l2, c2, s2⟩, hW₁, X', ⟨g', mk, t, L, E, ce, e1, e2, hq, hce, hcv, hcl, h1, hL, h2, h3⟩, st⟩
  · dsimp only [Pt.U, Pt.locs, Pt.cells, Pt.slots] at X' e1 e2 h1 h2 h3 st
    subst h1; subst h2; subst h3
    exact Or.inl ⟨v, (T.setVm vm₁).calling g' mk As.toArray, t, U', L, hT, X', hL, e1, e2, hq, st⟩
  · dsimp only [Pt.U, Pt.locs, Pt.cells, Pt.slots] at X' e1 e2 h1 h2 h3 st hcl
    subst h1; subst h2; subst h3
    exact Or.inr ⟨q, (T.setVm vm₁).calling g' mk As.toArray, t, U', L, E, ce, hT, X', hL, e1, e2, hq, hce, hcv, vx_cls hW₁ hcl, st⟩
end Runs
section Rows
variable {p : Program} {l : Launch} {e : Env} {R : Room} {s : State} {m : MethodId} {args : Array Value} {below : List Frame} {meth : Method} {c : Code} {H : Heap} {locs : List Loc} {cells slots : Nat} {Q : State → Prop}
variable {mc ms : Nat} {free : Addr → Prop} {A0 A1 : Nat → Prop} {H0 : Heap} {a : Array Value} {pc : Nat} {ls : Array Slot} {st0 rest : List Value}
theorem vx_keep {st₀ t T' : State} {L : List Loc} (h0 : st₀.heap = H) (e1 : T'.heap = t.heap) (hS : va_S A0 H0 H locs) (hA : ∀ q, q < H.size → A1 q → A0 q) (hf : ∀ q, free q → A0 q) (hL : ∀ q ∈ L, free q.base) (hF : va_F A1 st₀ t) :
    H.size ≤ T'.heap.size ∧ (∀ q : Nat, q < H.size → ¬ A1 q → T'.heap[q]? = H[q]?) ∧ va_S A0 H0 T'.heap (locs ++ L) := by
  obtain ⟨hz, hk⟩ := hF
  rw [h0] at hz hk
  exact ⟨by rw [e1]; exact hz, fun q h1 h2 => by rw [e1]; exact hk q h1 h2,
    ⟨Nat.le_trans hS.1 (by rw [e1]; exact hz), fun q h1 h2 => by rw [e1, hk q (Nat.lt_of_lt_of_le h1 hS.1) (fun z => h2 (hA q (Nat.lt_of_lt_of_le h1 hS.1) z))]; exact hS.2.1 q h1 h2, fun q hq => by
      rcases List.mem_append.mp hq with h | h
      · exact hS.2.2 q h
      · exact hf _ (hL q h)⟩⟩
theorem vx_calli {S SX : Type} {post : Int32 → S → Prop} {px : SX → Prop} {B : S → State → Prop} {BX : String → SX → State → Prop} {AX : Nat → Prop} (hr : vx_Run p l e R s m args below meth c H locs cells slots mc ms (F0 m pc ls st0) rest (va_Qi post B A1 a) (vx_X px BX AX) free) (hS : va_S A0 H0 H locs) (hA : ∀ q, q < H.size → A1 q → A0 q) (hf : ∀ q, free q → A0 q) (hAX : ∀ q, q < H.size → AX q → A0 q)
    (kx : ∀ (E : String) (ce : Cell) (q9 : Addr) (u : SX) (t : State) (H1 : Heap) (locs1 : List Loc), t.heap = H1 → s.vm.Alike t.vm → px u → BX E u t → H.size ≤ H1.size → (∀ q : Nat, q < H.size → ¬ AX q → H1[q]? = H[q]?) → va_S A0 H0 H1 locs1 → H1[q9]? = some ce → ce.vm = .none → s.vm.findClass E = some ce.cls → vx_W p l e R s m args below meth c H1 locs1 (cells + mc) (slots + ms) Q (F0 m pc ls rest) q9)
    (kk : ∀ (r : Int32) (u : S) (t : State) (H1 : Heap) (locs1 : List Loc), t.heap = H1 → s.vm.Alike t.vm → post r u → B u t → H.size ≤ H1.size → (∀ q : Nat, q < H.size → ¬ A1 q → H1[q]? = H[q]?) → va_S A0 H0 H1 locs1 → W p l e R s m args below meth c H1 locs1 (cells + mc) (slots + ms) Q (F0 m (pc + 3) ls (.int r :: rest))) : W p l e R s m args below meth c H locs cells slots Q (F0 m pc ls st0) := by
  intro T hT X
  rcases hr T hT X with ⟨v, st₀, t, T', L, h0, X', hL, e1, e2, ⟨⟨r, u, hv, hp, hb⟩, hF⟩, st⟩ | ⟨q, st₀, t, T', L, E, ce, h0, X', hL, e1, e2, ⟨u, hp, hb, hF⟩, hce, hcv, hcl, st⟩
  · cases hv
    obtain ⟨k1, k2, k3⟩ := vx_keep h0 e1 hS hA hf hL hF
    obtain ⟨t2, a1, b1⟩ := kk r u t T'.heap (locs ++ L) e1.symm (by rw [← e2]; exact X'.warmed.alike) hp hb k1 k2 k3 T' rfl X'
    exact ⟨t2, st t2 a1, b1⟩
  · obtain ⟨k1, k2, k3⟩ := vx_keep h0 e1 hS hAX hf hL hF
    obtain ⟨t2, a1, b1⟩ := kx E ce q u t T'.heap (locs ++ L) e1.symm (by rw [← e2]; exact X'.warmed.alike) hp hb k1 k2 k3 (by rw [e1]; exact hce) hcv hcl T' rfl X'
    exact ⟨t2, st.trans a1, b1⟩
theorem vx_calll {S SX : Type} {post : Int64 → S → Prop} {px : SX → Prop} {B : S → State → Prop} {BX : String → SX → State → Prop} {AX : Nat → Prop} (hr : vx_Run p l e R s m args below meth c H locs cells slots mc ms (F0 m pc ls st0) rest (va_Ql post B A1 a) (vx_X px BX AX) free) (hS : va_S A0 H0 H locs) (hA : ∀ q, q < H.size → A1 q → A0 q) (hf : ∀ q, free q → A0 q) (hAX : ∀ q, q < H.size → AX q → A0 q)
    (kx : ∀ (E : String) (ce : Cell) (q9 : Addr) (u : SX) (t : State) (H1 : Heap) (locs1 : List Loc), t.heap = H1 → s.vm.Alike t.vm → px u → BX E u t → H.size ≤ H1.size → (∀ q : Nat, q < H.size → ¬ AX q → H1[q]? = H[q]?) → va_S A0 H0 H1 locs1 → H1[q9]? = some ce → ce.vm = .none → s.vm.findClass E = some ce.cls → vx_W p l e R s m args below meth c H1 locs1 (cells + mc) (slots + ms) Q (F0 m pc ls rest) q9)
    (kk : ∀ (r : Int64) (u : S) (t : State) (H1 : Heap) (locs1 : List Loc), t.heap = H1 → s.vm.Alike t.vm → post r u → B u t → H.size ≤ H1.size → (∀ q : Nat, q < H.size → ¬ A1 q → H1[q]? = H[q]?) → va_S A0 H0 H1 locs1 → W p l e R s m args below meth c H1 locs1 (cells + mc) (slots + ms) Q (F0 m (pc + 3) ls (.long r :: rest))) : W p l e R s m args below meth c H locs cells slots Q (F0 m pc ls st0) := by
  intro T hT X
  rcases hr T hT X with ⟨v, st₀, t, T', L, h0, X', hL, e1, e2, ⟨⟨r, u, hv, hp, hb⟩, hF⟩, st⟩ | ⟨q, st₀, t, T', L, E, ce, h0, X', hL, e1, e2, ⟨u, hp, hb, hF⟩, hce, hcv, hcl, st⟩
  · cases hv
    obtain ⟨k1, k2, k3⟩ := vx_keep h0 e1 hS hA hf hL hF
    obtain ⟨t2, a1, b1⟩ := kk r u t T'.heap (locs ++ L) e1.symm (by rw [← e2]; exact X'.warmed.alike) hp hb k1 k2 k3 T' rfl X'
    exact ⟨t2, st t2 a1, b1⟩
  · obtain ⟨k1, k2, k3⟩ := vx_keep h0 e1 hS hAX hf hL hF
    obtain ⟨t2, a1, b1⟩ := kx E ce q u t T'.heap (locs ++ L) e1.symm (by rw [← e2]; exact X'.warmed.alike) hp hb k1 k2 k3 (by rw [e1]; exact hce) hcv hcl T' rfl X'
    exact ⟨t2, st.trans a1, b1⟩
theorem vx_callf {S SX : Type} {post : UInt32 → S → Prop} {px : SX → Prop} {B : S → State → Prop} {BX : String → SX → State → Prop} {AX : Nat → Prop} (hr : vx_Run p l e R s m args below meth c H locs cells slots mc ms (F0 m pc ls st0) rest (va_Qf post B A1 a) (vx_X px BX AX) free) (hS : va_S A0 H0 H locs) (hA : ∀ q, q < H.size → A1 q → A0 q) (hf : ∀ q, free q → A0 q) (hAX : ∀ q, q < H.size → AX q → A0 q)
    (kx : ∀ (E : String) (ce : Cell) (q9 : Addr) (u : SX) (t : State) (H1 : Heap) (locs1 : List Loc), t.heap = H1 → s.vm.Alike t.vm → px u → BX E u t → H.size ≤ H1.size → (∀ q : Nat, q < H.size → ¬ AX q → H1[q]? = H[q]?) → va_S A0 H0 H1 locs1 → H1[q9]? = some ce → ce.vm = .none → s.vm.findClass E = some ce.cls → vx_W p l e R s m args below meth c H1 locs1 (cells + mc) (slots + ms) Q (F0 m pc ls rest) q9)
    (kk : ∀ (r : UInt32) (u : S) (t : State) (H1 : Heap) (locs1 : List Loc), t.heap = H1 → s.vm.Alike t.vm → post r u → B u t → H.size ≤ H1.size → (∀ q : Nat, q < H.size → ¬ A1 q → H1[q]? = H[q]?) → va_S A0 H0 H1 locs1 → W p l e R s m args below meth c H1 locs1 (cells + mc) (slots + ms) Q (F0 m (pc + 3) ls (.float r :: rest))) : W p l e R s m args below meth c H locs cells slots Q (F0 m pc ls st0) := by
  intro T hT X
  rcases hr T hT X with ⟨v, st₀, t, T', L, h0, X', hL, e1, e2, ⟨⟨r, u, hv, hp, hb⟩, hF⟩, st⟩ | ⟨q, st₀, t, T', L, E, ce, h0, X', hL, e1, e2, ⟨u, hp, hb, hF⟩, hce, hcv, hcl, st⟩
  · cases hv
    obtain ⟨k1, k2, k3⟩ := vx_keep h0 e1 hS hA hf hL hF
    obtain ⟨t2, a1, b1⟩ := kk r u t T'.heap (locs ++ L) e1.symm (by rw [← e2]; exact X'.warmed.alike) hp hb k1 k2 k3 T' rfl X'
    exact ⟨t2, st t2 a1, b1⟩
  · obtain ⟨k1, k2, k3⟩ := vx_keep h0 e1 hS hAX hf hL hF
    obtain ⟨t2, a1, b1⟩ := kx E ce q u t T'.heap (locs ++ L) e1.symm (by rw [← e2]; exact X'.warmed.alike) hp hb k1 k2 k3 (by rw [e1]; exact hce) hcv hcl T' rfl X'
    exact ⟨t2, st.trans a1, b1⟩
theorem vx_calld {S SX : Type} {post : UInt64 → S → Prop} {px : SX → Prop} {B : S → State → Prop} {BX : String → SX → State → Prop} {AX : Nat → Prop} (hr : vx_Run p l e R s m args below meth c H locs cells slots mc ms (F0 m pc ls st0) rest (va_Qd post B A1 a) (vx_X px BX AX) free) (hS : va_S A0 H0 H locs) (hA : ∀ q, q < H.size → A1 q → A0 q) (hf : ∀ q, free q → A0 q) (hAX : ∀ q, q < H.size → AX q → A0 q)
    (kx : ∀ (E : String) (ce : Cell) (q9 : Addr) (u : SX) (t : State) (H1 : Heap) (locs1 : List Loc), t.heap = H1 → s.vm.Alike t.vm → px u → BX E u t → H.size ≤ H1.size → (∀ q : Nat, q < H.size → ¬ AX q → H1[q]? = H[q]?) → va_S A0 H0 H1 locs1 → H1[q9]? = some ce → ce.vm = .none → s.vm.findClass E = some ce.cls → vx_W p l e R s m args below meth c H1 locs1 (cells + mc) (slots + ms) Q (F0 m pc ls rest) q9)
    (kk : ∀ (r : UInt64) (u : S) (t : State) (H1 : Heap) (locs1 : List Loc), t.heap = H1 → s.vm.Alike t.vm → post r u → B u t → H.size ≤ H1.size → (∀ q : Nat, q < H.size → ¬ A1 q → H1[q]? = H[q]?) → va_S A0 H0 H1 locs1 → W p l e R s m args below meth c H1 locs1 (cells + mc) (slots + ms) Q (F0 m (pc + 3) ls (.double r :: rest))) : W p l e R s m args below meth c H locs cells slots Q (F0 m pc ls st0) := by
  intro T hT X
  rcases hr T hT X with ⟨v, st₀, t, T', L, h0, X', hL, e1, e2, ⟨⟨r, u, hv, hp, hb⟩, hF⟩, st⟩ | ⟨q, st₀, t, T', L, E, ce, h0, X', hL, e1, e2, ⟨u, hp, hb, hF⟩, hce, hcv, hcl, st⟩
  · cases hv
    obtain ⟨k1, k2, k3⟩ := vx_keep h0 e1 hS hA hf hL hF
    obtain ⟨t2, a1, b1⟩ := kk r u t T'.heap (locs ++ L) e1.symm (by rw [← e2]; exact X'.warmed.alike) hp hb k1 k2 k3 T' rfl X'
    exact ⟨t2, st t2 a1, b1⟩
  · obtain ⟨k1, k2, k3⟩ := vx_keep h0 e1 hS hAX hf hL hF
    obtain ⟨t2, a1, b1⟩ := kx E ce q u t T'.heap (locs ++ L) e1.symm (by rw [← e2]; exact X'.warmed.alike) hp hb k1 k2 k3 (by rw [e1]; exact hce) hcv hcl T' rfl X'
    exact ⟨t2, st.trans a1, b1⟩
theorem vx_callv {S SX : Type} {post : S → Prop} {px : SX → Prop} {B : S → State → Prop} {BX : String → SX → State → Prop} {AX : Nat → Prop} (hr : vx_Run p l e R s m args below meth c H locs cells slots mc ms (F0 m pc ls st0) rest (va_Qv post B A1 a) (vx_X px BX AX) free) (hS : va_S A0 H0 H locs) (hA : ∀ q, q < H.size → A1 q → A0 q) (hf : ∀ q, free q → A0 q) (hAX : ∀ q, q < H.size → AX q → A0 q)
    (kx : ∀ (E : String) (ce : Cell) (q9 : Addr) (u : SX) (t : State) (H1 : Heap) (locs1 : List Loc), t.heap = H1 → s.vm.Alike t.vm → px u → BX E u t → H.size ≤ H1.size → (∀ q : Nat, q < H.size → ¬ AX q → H1[q]? = H[q]?) → va_S A0 H0 H1 locs1 → H1[q9]? = some ce → ce.vm = .none → s.vm.findClass E = some ce.cls → vx_W p l e R s m args below meth c H1 locs1 (cells + mc) (slots + ms) Q (F0 m pc ls rest) q9)
    (kk : ∀ (u : S) (t : State) (H1 : Heap) (locs1 : List Loc), t.heap = H1 → s.vm.Alike t.vm → post u → B u t → H.size ≤ H1.size → (∀ q : Nat, q < H.size → ¬ A1 q → H1[q]? = H[q]?) → va_S A0 H0 H1 locs1 → W p l e R s m args below meth c H1 locs1 (cells + mc) (slots + ms) Q (F0 m (pc + 3) ls (rest))) : W p l e R s m args below meth c H locs cells slots Q (F0 m pc ls st0) := by
  intro T hT X
  rcases hr T hT X with ⟨v, st₀, t, T', L, h0, X', hL, e1, e2, ⟨⟨u, hv, hp, hb⟩, hF⟩, st⟩ | ⟨q, st₀, t, T', L, E, ce, h0, X', hL, e1, e2, ⟨u, hp, hb, hF⟩, hce, hcv, hcl, st⟩
  · cases hv
    obtain ⟨k1, k2, k3⟩ := vx_keep h0 e1 hS hA hf hL hF
    obtain ⟨t2, a1, b1⟩ := kk u t T'.heap (locs ++ L) e1.symm (by rw [← e2]; exact X'.warmed.alike) hp hb k1 k2 k3 T' rfl X'
    exact ⟨t2, st t2 a1, b1⟩
  · obtain ⟨k1, k2, k3⟩ := vx_keep h0 e1 hS hAX hf hL hF
    obtain ⟨t2, a1, b1⟩ := kx E ce q u t T'.heap (locs ++ L) e1.symm (by rw [← e2]; exact X'.warmed.alike) hp hb k1 k2 k3 (by rw [e1]; exact hce) hcv hcl T' rfl X'
    exact ⟨t2, st.trans a1, b1⟩
/-- caught by the row x of this method's table; the rows ahead don't take it -/
theorem vx_catch {own name : String} {E : String} {ce : Cell} {q : Addr} (hown : s.vm.findClass own = some m.cls) (pre : List ExceptionTableEntry) (x : ExceptionTableEntry) (suf : List ExceptionTableEntry) (hsplit : c.exceptionTable.toList = pre ++ x :: suf)
    (hpass : ∀ z ∈ pre, covers z pc = false ∨ (z.catchType ≠ 0 ∧ ∃ nm : String, (Cond.classLink own z.catchType nm).before args s = true ∧ va_Nc E nm s)) (hx : covers x pc = true) (h0 : x.catchType ≠ 0)
    (hlink : (Cond.classLink own x.catchType name).before args s = true) (hcast : (Cond.castable E name).before args s = true) (hcell : H[q]? = some ce) (hv : ce.vm = .none) (hcl : s.vm.findClass E = some ce.cls)
    (kk : W p l e R s m args below meth c H locs cells slots Q (F0 m x.handlerPc ls [.ref q])) : vx_W p l e R s m args below meth c H locs cells slots Q (F0 m pc ls rest) q := by
  intro T hT X
  have hpl : e.platform.magicAccessors = ({} : Platform).magicAccessors := by rw [X.admits.platform]
  obtain ⟨c3, c4, hc3, hc4, hasg⟩ := Cond.castable_spec hcast
  cases Option.some.inj (hc3.symm.trans hcl)
  obtain ⟨c5, hc5, hcl5⟩ := Cond.classLink_spec hown hlink e.platform hpl
  cases Option.some.inj (hc4.symm.trans hc5)
  obtain ⟨vm', X', st⟩ := X.thenCaughtThrough q (g := F0 m pc ls rest) rfl (Steps.refl _) (by rw [hT]; exact hcell) (by rw [hv]; rfl) (by obtain ⟨k9, h9, -⟩ := Vm.findClass_spec hcl; exact ⟨k9, h9⟩) pre x suf hsplit
    (fun z hz => by
      rcases hpass z hz with h | ⟨hz0, nm, hl1, hn1⟩
      · exact Or.inl h
      · obtain ⟨c6, hc6, hcl6⟩ := Cond.classLink_spec hown hl1 e.platform hpl
        obtain ⟨a8, b8, h1, h2, h3⟩ := hn1
        cases Option.some.inj (h1.symm.trans hcl)
        cases Option.some.inj (h2.symm.trans hc6)
        exact Or.inr ⟨hz0, _, hcl6, h3⟩) hx (Or.inr ⟨h0, c4, hcl5, hasg⟩)
  obtain ⟨t, a1, b1⟩ := kk (T.setVm vm') hT X'
  exact ⟨t, st.trans a1, b1⟩
end Rows
section Ends
variable {p : Program} {l : Launch} {e : Env} {R : Room} {s : State} {m : MethodId} {args : Array Value} {below : List Frame} {meth : Method} {c : Code} {H : Heap} {locs : List Loc} {cells slots : Nat} {Q : State → Prop}
variable {mc ms : Nat} {free : Addr → Prop} {A0 A1 : Nat → Prop} {H0 : Heap} {a : Array Value} {ls : Array Slot} {st0 rest : List Value}
variable {Qc : Array Value → State → Outcome → State → Prop} {XC : String → State → State → Prop}
/-- what a body that may throw owes at its end -/
def vx_MQ (below : List Frame) (Qc : Array Value → State → Outcome → State → Prop) (XC : String → State → State → Prop) (a : Array Value) (s : State) (mc ms : Nat) (free : Addr → Prop) : State → Prop := fun t =>
  ∃ o, t.status = .running ∧ Ended t below o ∧ vx_Q Qc XC mc ms free a s o t
theorem vx_ret {g : JFrame} {mc ms : Nat} (k : W p l e R s m args below meth c H locs cells slots (MQ below Qc args s mc ms free) g) : W p l e R s m args below meth c H locs cells slots (vx_MQ below Qc XC args s mc ms free) g := by
  intro T hT X
  obtain ⟨t, a1, o, b1, b2, b3, b4⟩ := k T hT X
  exact ⟨t, a1, o, b1, b2, Or.inl ⟨b3, b4⟩⟩
/-- not caught here: it goes on to the caller -/
theorem vx_widen {g : JFrame} {q : Addr} {k n : Nat} (h1 : cells ≤ k) (h2 : slots ≤ n) (kk : vx_W p l e R s m args below meth c H locs k n Q g q) : vx_W p l e R s m args below meth c H locs cells slots Q g q := fun T hT X => kk T hT (stand_widen X h1 h2)
theorem vx_out {pc : Nat} {E : String} {ce : Cell} {q : Addr} {mc ms : Nat} (hout : ∀ x ∈ c.exceptionTable.toList, covers x pc = false) (hlocks : meth.locks = false) (hcell : H[q]? = some ce) (hv : ce.vm = .none) (hcl : s.vm.findClass E = some ce.cls)
    (hx : ∀ t : State, t.heap = H → s.vm.Alike t.vm → XC E s t) (hf : ∀ z ∈ locs, free z.base) (hc : cells ≤ mc) (hs : slots ≤ ms) :
    vx_W p l e R s m args below meth c H locs cells slots (vx_MQ below Qc XC args s mc ms free) (F0 m pc ls rest) q := by
  intro T hT X
  obtain ⟨st1, hrun, hend, hW, hsm⟩ := X.leaveThrown q (g := F0 m pc ls rest) rfl rfl rfl hout hlocks
  have hcell9 : (T.setFrames (.throwing q :: below)).heap[q]? = some ce := by
    show T.heap[q]? = some ce
    rw [hT]; exact hcell
  exact ⟨_, st1, .threw q, hrun, hend, Or.inr ⟨q, rfl, E, ce, locs, hx _ hT hW.alike, hcell9, hv, hcl, hW, hsm.mono hc hs, hf⟩⟩
theorem vx_frame {U : State} {k n : Nat} (h : s.sameButNew ({ U with vm := s.vm } : State) locs k n) : s.heap.size ≤ U.heap.size ∧ ∀ q : Nat, q < s.heap.size → (∀ z ∈ locs, z.base ≠ q) → U.heap[q]? = s.heap[q]? := by
  obtain ⟨-, h2, -, -, -, h6⟩ := h
  refine ⟨h2, fun q hq hz => ?_⟩
  obtain ⟨c9, e1, e2, e3, e4⟩ := h6 q _ (Array.getElem?_eq_getElem hq)
  have hs : c9.slots = (s.heap[q]).slots := Array.ext_getElem? fun i => e4 i fun hm => hz _ hm rfl
  have h9 : c9 = s.heap[q] := by
    rw [hs] at e2
    exact e2
  have e5 : U.heap[q]? = some c9 := e1
  rw [e5, h9, Array.getElem?_eq_getElem hq]
/-- the words of a throw but the four that speak of the heap -/
def vx_no (w : Cond) : Bool := decide (w ≠ .isRef (.static Bundle.tN "UNASSIGNED_STACK" Bundle.steD)) && decide (w ≠ .isRef (.static Bundle.tN "SUPPRESSED_SENTINEL" Bundle.listD)) && decide (w ≠ .laysStatic Bundle.tN "UNASSIGNED_STACK" Bundle.steD) && decide (w ≠ .laysStatic Bundle.tN "SUPPRESSED_SENTINEL" Bundle.listD)
def vx_at0 (own : String) (ic : Nat) (X : String) (names : List String) : List Cond := (Bundle.ownAtoms0 own ic X names).filter vx_no
def vx_atS (own : String) (ic : Nat) (X : String) (names : List String) : List Cond := (Bundle.ownAtoms own ic X names).filter vx_no
/-- a word that the tables alone decide, or a good one -/
def vx_ot (w : Cond) : Bool := w.onTables || goodWord w
theorem vx_ot_at {args a' : Array Value} {s U : State} {w : Cond} (hW : s.WarmedH U.vm) (hvm : s.vm = U.vm) (hg : vx_ot w = true) (h : w.before args s = true) : w.before a' U = true := by
  simp only [vx_ot, Bool.or_eq_true] at hg
  rcases hg with hg | hg
  · exact va_tabs hg hvm h
  · exact word_at hW (good_of_word hg) h
/-- a list's words: the good ones out of the method's own list, the others by premises of their own -/
theorem vx_hat {args : Array Value} {s : State} {L B : List Cond} (h1 : ∀ w ∈ L.filter goodWord, w.before args s = true) (h2 : ∀ w ∈ L.filter (fun w => !goodWord w), w ∈ B) (h3 : ∀ w ∈ B, w.before args s = true) : ∀ w ∈ L, w.before args s = true := by
  intro w hw
  by_cases g : goodWord w = true
  · exact h1 w (List.mem_filter.mpr ⟨hw, g⟩)
  · refine h3 w (h2 w (List.mem_filter.mpr ⟨hw, ?_⟩))
    show (!goodWord w) = true
    cases hgw : goodWord w
    · rfl
    · exact absurd hgw g
theorem vx_c {args : Array Value} {s : State} {w : Cond} {B : List Cond} (h : w.before args s = true) (t : ∀ w ∈ B, w.before args s = true) : ∀ w' ∈ w :: B, w'.before args s = true := fun w' h' => (List.mem_cons.mp h').elim (fun e => by rw [e]; exact h) (t w')
theorem vx_n {args : Array Value} {s : State} : ∀ w ∈ ([] : List Cond), w.before args s = true := fun _ h => nomatch h
theorem vx_own {args : Array Value} {s : State} {L : List Cond} (h1 : ∀ w ∈ L.filter vx_no, w.before args s = true)
    (hU : (Cond.isRef (.static Bundle.tN "UNASSIGNED_STACK" Bundle.steD)).before args s = true) (hN : (Cond.isRef (.static Bundle.tN "SUPPRESSED_SENTINEL" Bundle.listD)).before args s = true)
    (lU : (Cond.laysStatic Bundle.tN "UNASSIGNED_STACK" Bundle.steD).before args s = true) (lN : (Cond.laysStatic Bundle.tN "SUPPRESSED_SENTINEL" Bundle.listD).before args s = true) : ∀ w ∈ L, w.before args s = true := by
  intro w hw
  by_cases e1 : w = .isRef (.static Bundle.tN "UNASSIGNED_STACK" Bundle.steD)
  · rw [e1]; exact hU
  · by_cases e2 : w = .isRef (.static Bundle.tN "SUPPRESSED_SENTINEL" Bundle.listD)
    · rw [e2]; exact hN
    · by_cases e3 : w = .laysStatic Bundle.tN "UNASSIGNED_STACK" Bundle.steD
      · rw [e3]; exact lU
      · by_cases e4 : w = .laysStatic Bundle.tN "SUPPRESSED_SENTINEL" Bundle.listD
        · rw [e4]; exact lN
        · exact h1 w (List.mem_filter.mpr ⟨hw, by unfold vx_no; rw [decide_eq_true e1, decide_eq_true e2, decide_eq_true e3, decide_eq_true e4]; rfl⟩)
/-- where a static field lies, its class's statics cell in H -/
def vx_L (C n d : String) (A : Nat → Prop) (U : State) (H : Heap) : Prop := ∃ (c : ClassId) (k : Class) (i : Nat) (f : Field) (a : Nat) (cell : Cell), U.vm.findClass C = some c ∧ U.fieldFound? C n d = some (c, k, i, f) ∧ f.isStatic = true ∧ k.statics = some a ∧ H[a]? = some cell ∧ cell.vm.isStatics = true ∧ cell.cls = c ∧ f.slot < cell.slots.size ∧ k.staticTypes[f.slot]? = some f.type ∧ ¬ A a
theorem vx_L.moved {C n d : String} {A : Nat → Prop} {u U : State} {H : Heap} (hvm : u.vm.Alike U.vm) (h : vx_L C n d A u H) : vx_L C n d A U H := by
  obtain ⟨c, k, i, f, a, cell, h1, h2, h3, h4, h5, h6, h7, h8, h9, h10⟩ := h
  obtain ⟨k', hi', he⟩ := State.fieldFound?_setVm hvm h2
  exact ⟨c, k', i, f, a, cell, by rw [hvm.findClass]; exact h1, hi', h3, by rw [he]; exact h4, h5, h6, h7, h8, by rw [he]; exact h9, h10⟩
theorem vx_L.kept {C n d : String} {A : Nat → Prop} {U : State} {H H1 : Heap} (h : vx_L C n d A U H) (hq : ∀ a : Nat, a < H.size → ¬ A a → H1[a]? = H[a]?) : vx_L C n d A U H1 := by
  obtain ⟨c, k, i, f, a, cell, h1, h2, h3, h4, h5, h6, h7, h8, h9, h10⟩ := h
  exact ⟨c, k, i, f, a, cell, h1, h2, h3, h4, by rw [hq a (Array.getElem?_eq_some_iff.mp h5).1 h10]; exact h5, h6, h7, h8, h9, h10⟩
theorem vx_L.narrow {C n d : String} {A B : Nat → Prop} {U : State} {H : Heap} (h : vx_L C n d A U H) (hAB : ∀ q, B q → A q) : vx_L C n d B U H := by
  obtain ⟨c, k, i, f, a, cell, h1, h2, h3, h4, h5, h6, h7, h8, h9, h10⟩ := h
  exact ⟨c, k, i, f, a, cell, h1, h2, h3, h4, h5, h6, h7, h8, h9, fun z => h10 (hAB _ z)⟩
theorem vx_L.word {C n d : String} {A : Nat → Prop} {s : State} {args : Array Value} (h : vx_L C n d A s s.heap) : (Cond.laysStatic C n d).before args s = true := by
  obtain ⟨c, k, i, f, a, cell, h1, h2, h3, h4, h5, h6, h7, h8, h9, -⟩ := h
  show (Cond.laysStatic C n d).holds args s none s [] = true
  exact Cond.laysStatic_of h1 h2 h3 h4 h5 h6 h7 h8 h9
/-- .. and what it holds: null or some reference -/
def vx_Zq (C n d : String) (A : Nat → Prop) (U : State) (H : Heap) : Prop := va_Zq C n d A U H ∧ vx_L C n d A U H
theorem vx_Zq.moved {C n d : String} {A : Nat → Prop} {u U : State} {H : Heap} (hvm : u.vm.Alike U.vm) (h : vx_Zq C n d A u H) : vx_Zq C n d A U H := ⟨va_Zq.moved hvm h.1, vx_L.moved hvm h.2⟩
theorem vx_Zq.kept {C n d : String} {A : Nat → Prop} {U : State} {H H1 : Heap} (h : vx_Zq C n d A U H) (hq : ∀ a : Nat, a < H.size → ¬ A a → H1[a]? = H[a]?) : vx_Zq C n d A U H1 := ⟨va_Zq.kept h.1 hq, vx_L.kept h.2 hq⟩
theorem vx_Zq.narrow {C n d : String} {A B : Nat → Prop} {U : State} {H : Heap} (h : vx_Zq C n d A U H) (hAB : ∀ q, B q → A q) : vx_Zq C n d B U H := ⟨va_Zq.narrow h.1 hAB, vx_L.narrow h.2 hAB⟩
theorem vx_Zqof {args : Array Value} {s : State} {C n d : String} {A : Nat → Prop} (hl : (Cond.laysStatic C n d).before args s = true) (hini : (Cond.initialized C).before args s = true) (h : (Cond.isRef (.static C n d)).before args s = true) (hA : ∀ a : Nat, a < s.heap.size → ¬ A a) : vx_Zq C n d A s s.heap := by
  refine ⟨va_Zqof hl hini h hA, ?_⟩
  obtain ⟨c, k, i, f, a, cell, h1, h2, h3, h4, h5, h6, h7, h8, h9⟩ := Cond.laysStatic_spec hl
  exact ⟨c, k, i, f, a, cell, h1, h2, h3, h4, h5, h6, h7, h8, h9, hA a (Array.getElem?_eq_some_iff.mp h5).1⟩
theorem vx_isRef {C n d : String} {v : Value} {A : Nat → Prop} {s : State} {args : Array Value} (h : va_Z C n d v A s s.heap) (hv : v.isRef = true) : (Cond.isRef (.static C n d)).before args s = true := by
  obtain ⟨cf, kf, fi, f, a, cell, h1, h2, h3, h4, h5, h6, h7, -⟩ := h
  have he : (Term.static C n d).eval args s none [] s = some v := by
    simp [Term.eval, State.fieldNamed?, h1, h2, h4, h5, h6, h7]
  simp only [Cond.before, Cond.holds, Cond.value, he]
  cases v <;> simp_all [Value.isRef]
theorem vx_isRefq {C n d : String} {A : Nat → Prop} {s : State} {args : Array Value} (h : va_Zq C n d A s s.heap) : (Cond.isRef (.static C n d)).before args s = true := by
  rcases h with h | ⟨t, h⟩
  · exact vx_isRef h rfl
  · exact vx_isRef h rfl
/-- the same frame, seen from here: as if the method were called anew in this heap -/
theorem vx_rebase {T : State} (X : Stand p l e R s m args below meth c T locs cells slots) {R' : Room} (hf : R'.frames ≤ R.frames) (hl : R'.locals ≤ R.locals) (hc : cells + R'.cells ≤ R.cells) (hs : slots + R'.slots ≤ R.slots) :
    Stand p l e R' ((T.setVm s.vm).setFrames (.invoking m args :: below)) m args below meth c T [] 0 0 := by
  have htop : (T.setVm s.vm).topJava?.isSome := X.here.top
  have hF : ((T.setVm s.vm).setFrames (.invoking m args :: below)).frames = .invoking m args :: below := State.frames_setFrames _ (State.cur_lt_of_top htop)
  obtain ⟨g₀, hg0⟩ := Option.isSome_iff_exists.mp htop
  obtain ⟨r, hr⟩ := State.topJava?_eq_some.mp hg0
  have hl9 : e.platform.stackLimits (T.setVm s.vm).me = e.platform.stackLimits s.me := X.limits
  have hb9 : (T.setVm s.vm).me.stackBytes = s.me.stackBytes := X.bytes
  refine ⟨X.admits, X.cas, X.clock, hF, ?_, X.hears, X.method, X.code, X.here, X.tail, X.warmed, ?_, ?_, ?_⟩
  · have h := X.room
    have hU : ((T.setVm s.vm).setFrames (.invoking m args :: below)).localsInUse = s.localsInUse := by
      rw [State.localsInUse_invoking hF (meth := meth) (c := c) X.method X.code, State.localsInUse_invoking X.frames X.method X.code]
    simp only [State.hasRoom, Bool.and_eq_true, decide_eq_true_eq] at h ⊢
    obtain ⟨⟨⟨⟨h1, h2, h3, h4, h5, h6⟩, h7⟩, h8⟩, h9⟩ := h
    rw [X.frames, List.length_cons] at h2 h3
    have q1 := X.heapSize
    have q2 := X.used
    simp only [hF, hU, List.length_cons, State.stackLimits_setFrames, State.stackBytes_setFrames, hl9, hb9]
    refine ⟨⟨⟨⟨by omega, by omega, by omega, by omega, by omega, h6⟩, ?_⟩, ?_⟩, X.book⟩
    · show T.heap.size + R'.cells ≤ e.platform.maxCells
      omega
    · show T.slotsUsed + R'.slots ≤ e.platform.maxSlots
      omega
  · rw [State.stackLimits_setFrames]; rfl
  · rw [State.stackBytes_setFrames]; rfl
  · refine ⟨?_, Nat.le_refl _, Nat.le_refl _, ?_, ?_, fun a c9 h9 => ⟨c9, h9, rfl, rfl, fun _ _ => rfl⟩⟩
    · obtain ⟨t, ht, -⟩ := State.frames_cons hr
      show T.setVm s.vm = { ((T.setVm s.vm).setFrames (.invoking m args :: below)).setFrames (T.setVm s.vm).frames with heap := T.heap, slotsUsed := T.slotsUsed }
      rw [State.setFrames_setFrames, State.setFrames_self ht]
      rfl
    · show T.slotsUsed = T.slotsUsed + ((T.heap.toList.drop T.heap.size).map (·.slots.size)).sum
      rw [List.drop_eq_nil_of_le (Nat.le_of_eq Array.length_toList)]
      rfl
    · show ((T.heap.toList.drop T.heap.size).map (·.slots.size)).sum ≤ 0
      rw [List.drop_eq_nil_of_le (Nat.le_of_eq Array.length_toList)]
      exact Nat.le_refl _
/-- 'throw new E()': new; dup; invokespecial; athrow -/
theorem vx_throw0 {cc : ByteArray} {pc : Nat} (hexec : p.tables.exec = Jvm.exec) (hb : c.code = cc) (hl : l.stackTraces = false) {own cls : String} {names : List String} {ik ic mc ms : Nat} {A : Nat → Prop}
    (hown : s.vm.findClass own = some m.cls) (hcls : Bundle.fit cls = true) (hnames : ∀ n ∈ names, Bundle.fit n = true)
    (hk : (Cond.classLink own ik cls).before args s = true) (hini : (Cond.initialized cls).before args s = true) (hat : ∀ w ∈ vx_at0 own ic cls names, w.before args s = true)
    (hgood : ∀ w ∈ Cond.classLink own ik cls :: Cond.initialized cls :: vx_at0 own ic cls names, vx_ot w = true)
    (hU : vx_Zq Bundle.tN "UNASSIGNED_STACK" Bundle.steD A s s.heap) (hN : vx_Zq Bundle.tN "SUPPRESSED_SENTINEL" Bundle.listD A s s.heap) (hS : va_S A s.heap H locs) (hsize : ls.size = c.maxLocals)
    (d0 : decode cc pc = .ok (.new ik, 3)) (d3 : decode cc (pc + 3) = .ok (.dup, 1)) (d4 : decode cc (pc + 4) = .ok (.invokespecial ic, 3)) (d7 : decode cc (pc + 7) = .ok (.athrow, 1))
    (hout : ∀ x ∈ c.exceptionTable.toList, covers x (pc + 7) = false)
    (hRframes : names.length + 3 < R.frames) (hRlocals : (rest.map fun v => v.category).sum + (13 * (names.length + 1) + 42) ≤ R.locals) (hRcells : cells + 1 ≤ R.cells) (hRslots : slots + 6 ≤ R.slots) (hlocks : meth.locks = false)
    (hx : ∀ t : State, s.vm.Alike t.vm → H.size ≤ t.heap.size → (∀ q : Nat, q < H.size → t.heap[q]? = H[q]?) → XC cls s t)
    (hf : ∀ z ∈ locs, free z.base) (hc : cells + 1 ≤ mc) (hs : slots + 6 ≤ ms) :
    W p l e R s m args below meth c H locs cells slots (vx_MQ below Qc XC args s mc ms free) (F0 m pc ls rest) := by
  intro T hT X
  have htr : e.platform.stackTraces = false := (show e.platform.stackTraces = l.stackTraces by rw [X.admits.platform]).trans hl
  have Y := vx_rebase X (R' := { frames := R.frames, locals := R.locals, cells := 1, slots := 6 }) (Nat.le_refl _) (Nat.le_refl _) hRcells hRslots
  obtain ⟨s', hA⟩ : ∃ z, z = (T.setVm s.vm).setFrames (.invoking m args :: below) := ⟨_, rfl⟩
  rw [← hA] at Y
  have hvm : s'.vm = s.vm := by rw [hA]; rfl
  have hhp : s'.heap = H := by rw [hA]; exact hT
  have hW0 : s.WarmedH s'.vm := by rw [hvm]; exact State.WarmedH.refl s
  have hat' : ∀ w ∈ vx_at0 own ic cls names, w.before args s' = true := fun w hw => vx_ot_at hW0 hvm.symm (hgood w (List.mem_cons_of_mem _ (List.mem_cons_of_mem _ hw))) (hat w hw)
  have hk' : (Cond.classLink own ik cls).before args s' = true := vx_ot_at hW0 hvm.symm (hgood _ List.mem_cons_self) hk
  have hini' : (Cond.initialized cls).before args s' = true := vx_ot_at hW0 hvm.symm (hgood _ (List.mem_cons_of_mem _ List.mem_cons_self)) hini
  have hU' : vx_Zq Bundle.tN "UNASSIGNED_STACK" Bundle.steD A s' s'.heap := by rw [hhp]; exact vx_Zq.moved hW0.alike (hU.kept hS.2.1)
  have hN' : vx_Zq Bundle.tN "SUPPRESSED_SENTINEL" Bundle.listD A s' s'.heap := by rw [hhp]; exact vx_Zq.moved hW0.alike (hN.kept hS.2.1)
  have h : ∀ w ∈ Bundle.ownAtoms0 own ic cls names, w.before args s' = true := vx_own hat' (vx_isRefq hU'.1) (vx_isRefq hN'.1) hU'.2.word hN'.2.word
  have hown' : s'.vm.findClass own = some m.cls := by rw [hvm]; exact hown
  have hins : (Cond.instantiable cls 6).before args s' = true := h _ (by simp [Bundle.ownAtoms0])
  obtain ⟨vm₁, cX, kX, hfX, hkX, -, -, X₁, st1⟩ := Y.newCold hexec (own := own) (C := cls) (index := ik) (n := 6) hown' hk' hins hini'
    (g := F0 m pc ls rest) rfl (by rw [hb]; exact d0) (Nat.le_refl _) (Nat.le_refl _)
  generalize hT1 : (T.setVm vm₁).pushCell { cls := cX, slots := kX.instanceTypes.map defaultValue, vm := .none } = T1 at X₁ st1
  have hcat : (Value.ref T.heap.size).category = 1 := rfl
  have hcellA : T1.heap[T.heap.size]? = some (freshCell cX kX) := by rw [← hT1]; exact State.heap_pushCell_size _ _
  have d3' : decode c.code (pc + 3) = .ok (.dup, 1) := by rw [hb]; exact d3
  obtain ⟨U, hsteps, hrun, hend, hW, hsame, ce, hce, hO⟩ := X₁.ctorThrow0 hexec htr (own := own) (cls := cls) (names := names) (ic := ic) hown' hcls hnames h (fun x hx => nomatch hx) hfX hkX hcellA (by rw [hhp, hT]; exact Nat.le_refl _)
    (g := { method := m, pc := pc + 4, locals := ls, stack := .ref T.heap.size :: .ref T.heap.size :: rest, locked := none }) rfl hsize rfl rfl (rest := rest) rfl
    (by rw [hb]; exact d4) (by rw [hb]; exact d7) hout hRframes (by simp only [List.map_cons, List.sum_cons, hcat]; omega) hlocks
  obtain ⟨f1, f2⟩ := vx_frame hsame
  rw [hhp] at f1 f2
  have hWs : s.WarmedH U.vm := State.WarmedH.trans hW0 hW
  have hcl : s.vm.findClass cls = some ce.cls := by
    have h9 := hO.cls
    rw [hvm] at h9
    exact h9
  have hall : s.sameButNew ({ U with vm := s.vm } : State) locs mc ms := by
    subst hA
    obtain ⟨e1, e2⟩ := hsame
    rw [State.setFrames_setFrames] at e1
    have h2 : (T.setVm s.vm).sameButNew ({ U with vm := s.vm } : State) [] (0 + 1) (0 + 6) := ⟨e1, e2⟩
    have h3 := X.same.trans h2
    rw [List.append_nil] at h3
    exact h3.mono hc hs
  refine ⟨U, ?_, .threw T.heap.size, hrun, hend, Or.inr ⟨T.heap.size, rfl, cls, ce, locs, hx U hWs.alike f1 (fun q hq => f2 q hq (fun z hz => nomatch hz)), hce, hO.vm, hcl, hWs, hall, hf⟩⟩
  refine st1 _ ?_
  show Steps p.tables e below (T1.setTop { method := m, pc := pc + 3, locals := ls, stack := .ref T.heap.size :: rest, locked := none }) _
  jvm_step X₁.here [X₁.here.top, hexec, d3', Value.category]
  exact hsteps
/-- 'throw new E("text")': new; dup; ldc; invokespecial; athrow -/
theorem vx_throwS {cc : ByteArray} {pc : Nat} (hexec : p.tables.exec = Jvm.exec) (hb : c.code = cc) (hl : l.stackTraces = false) {own cls text : String} {names : List String} {ik is ic mc ms sa : Nat} {A : Nat → Prop}
    (hown : s.vm.findClass own = some m.cls) (hcls : Bundle.fit cls = true) (hnames : ∀ n ∈ names, Bundle.fit n = true)
    (hk : (Cond.classLink own ik cls).before args s = true) (hini : (Cond.initialized cls).before args s = true) (hstr : vk_R own is text sa s) (hat : ∀ w ∈ vx_atS own ic cls names, w.before args s = true)
    (hgood : ∀ w ∈ Cond.classLink own ik cls :: Cond.initialized cls :: vx_atS own ic cls names, vx_ot w = true)
    (hU : vx_Zq Bundle.tN "UNASSIGNED_STACK" Bundle.steD A s s.heap) (hN : vx_Zq Bundle.tN "SUPPRESSED_SENTINEL" Bundle.listD A s s.heap) (hS : va_S A s.heap H locs) (hsize : ls.size = c.maxLocals)
    (d0 : decode cc pc = .ok (.new ik, 3)) (d3 : decode cc (pc + 3) = .ok (.dup, 1)) (d4 : decode cc (pc + 4) = .ok (.ldc is, 2)) (d6 : decode cc (pc + 6) = .ok (.invokespecial ic, 3)) (d9 : decode cc (pc + 9) = .ok (.athrow, 1))
    (hout : ∀ x ∈ c.exceptionTable.toList, covers x (pc + 9) = false)
    (hRframes : names.length + 3 < R.frames) (hRlocals : (rest.map fun v => v.category).sum + (13 * (names.length + 1) + 43) ≤ R.locals) (hRcells : cells + 1 ≤ R.cells) (hRslots : slots + 6 ≤ R.slots) (hlocks : meth.locks = false)
    (hx : ∀ t : State, s.vm.Alike t.vm → H.size ≤ t.heap.size → (∀ q : Nat, q < H.size → t.heap[q]? = H[q]?) → XC cls s t)
    (hf : ∀ z ∈ locs, free z.base) (hc : cells + 1 ≤ mc) (hs : slots + 6 ≤ ms) :
    W p l e R s m args below meth c H locs cells slots (vx_MQ below Qc XC args s mc ms free) (F0 m pc ls rest) := by
  intro T hT X
  have htr : e.platform.stackTraces = false := (show e.platform.stackTraces = l.stackTraces by rw [X.admits.platform]).trans hl
  have Y := vx_rebase X (R' := { frames := R.frames, locals := R.locals, cells := 1, slots := 6 }) (Nat.le_refl _) (Nat.le_refl _) hRcells hRslots
  obtain ⟨s', hA⟩ : ∃ z, z = (T.setVm s.vm).setFrames (.invoking m args :: below) := ⟨_, rfl⟩
  rw [← hA] at Y
  have hvm : s'.vm = s.vm := by rw [hA]; rfl
  have hhp : s'.heap = H := by rw [hA]; exact hT
  have hW0 : s.WarmedH s'.vm := by rw [hvm]; exact State.WarmedH.refl s
  have hat' : ∀ w ∈ vx_atS own ic cls names, w.before args s' = true := fun w hw => vx_ot_at hW0 hvm.symm (hgood w (List.mem_cons_of_mem _ (List.mem_cons_of_mem _ hw))) (hat w hw)
  have hk' : (Cond.classLink own ik cls).before args s' = true := vx_ot_at hW0 hvm.symm (hgood _ List.mem_cons_self) hk
  have hini' : (Cond.initialized cls).before args s' = true := vx_ot_at hW0 hvm.symm (hgood _ (List.mem_cons_of_mem _ List.mem_cons_self)) hini
  have hU' : vx_Zq Bundle.tN "UNASSIGNED_STACK" Bundle.steD A s' s'.heap := by rw [hhp]; exact vx_Zq.moved hW0.alike (hU.kept hS.2.1)
  have hN' : vx_Zq Bundle.tN "SUPPRESSED_SENTINEL" Bundle.listD A s' s'.heap := by rw [hhp]; exact vx_Zq.moved hW0.alike (hN.kept hS.2.1)
  have h : ∀ w ∈ Bundle.ownAtoms own ic cls names, w.before args s' = true := vx_own hat' (vx_isRefq hU'.1) (vx_isRefq hN'.1) hU'.2.word hN'.2.word
  have hown' : s'.vm.findClass own = some m.cls := by rw [hvm]; exact hown
  have hins : (Cond.instantiable cls 6).before args s' = true := h _ (by simp [Bundle.ownAtoms])
  obtain ⟨vm₁, cX, kX, hfX, hkX, -, -, X₁, st1⟩ := Y.newCold hexec (own := own) (C := cls) (index := ik) (n := 6) hown' hk' hins hini'
    (g := F0 m pc ls rest) rfl (by rw [hb]; exact d0) (Nat.le_refl _) (Nat.le_refl _)
  generalize hT1 : (T.setVm vm₁).pushCell { cls := cX, slots := kX.instanceTypes.map defaultValue, vm := .none } = T1 at X₁ st1
  have hcat : (Value.ref T.heap.size).category = 1 := rfl
  have hcellA : T1.heap[T.heap.size]? = some (freshCell cX kX) := by rw [← hT1]; exact State.heap_pushCell_size _ _
  have d3' : decode c.code (pc + 3) = .ok (.dup, 1) := by rw [hb]; exact d3
  have d4' : decode c.code (pc + 4) = .ok (.ldc is, 2) := by rw [hb]; exact d4
  have hstr' : vk_R own is text sa s' := vk_R.warm hW0 hstr
  obtain ⟨U, hsteps, hrun, hend, hW, hsame, ce, hce, hO⟩ := X₁.ctorThrowS hexec htr (own := own) (cls := cls) (names := names) (ic := ic) hown' hcls hnames h (fun x hx => nomatch hx) hfX hkX hcellA (by rw [hhp, hT]; exact Nat.le_refl _) (msg := .ref sa) rfl
    (g := { method := m, pc := pc + 6, locals := ls, stack := .ref sa :: .ref T.heap.size :: .ref T.heap.size :: rest, locked := none }) rfl hsize rfl rfl (rest := rest) rfl
    (by rw [hb]; exact d6) (by rw [hb]; exact d9) hout hRframes (by simp only [List.map_cons, List.sum_cons, hcat]; omega) hlocks
  obtain ⟨f1, f2⟩ := vx_frame hsame
  rw [hhp] at f1 f2
  have hWs : s.WarmedH U.vm := State.WarmedH.trans hW0 hW
  have hcl : s.vm.findClass cls = some ce.cls := by
    have h9 := hO.cls
    rw [hvm] at h9
    exact h9
  have hall : s.sameButNew ({ U with vm := s.vm } : State) locs mc ms := by
    subst hA
    obtain ⟨e1, e2⟩ := hsame
    rw [State.setFrames_setFrames] at e1
    have h2 : (T.setVm s.vm).sameButNew ({ U with vm := s.vm } : State) [] (0 + 1) (0 + 6) := ⟨e1, e2⟩
    have h3 := X.same.trans h2
    rw [List.append_nil] at h3
    exact h3.mono hc hs
  refine ⟨U, ?_, .threw T.heap.size, hrun, hend, Or.inr ⟨T.heap.size, rfl, cls, ce, locs, hx U hWs.alike f1 (fun q hq => f2 q hq (fun z hz => nomatch hz)), hce, hO.vm, hcl, hWs, hall, hf⟩⟩
  refine st1 _ ?_
  show Steps p.tables e below (T1.setTop { method := m, pc := pc + 3, locals := ls, stack := .ref T.heap.size :: rest, locked := none }) _
  jvm_step X₁.here [X₁.here.top, hexec, d3', Value.category]
  exact X₁.ldcString hexec (own := own) (text := text) (index := is) (a := sa) hown' hstr'.1 hstr'.2
    (g := { method := m, pc := pc + 4, locals := ls, stack := .ref T.heap.size :: .ref T.heap.size :: rest, locked := none }) rfl d4' _ hsteps
/-- 'throw new E("text")', the text by a wide index -/
theorem vx_throwSW {cc : ByteArray} {pc : Nat} (hexec : p.tables.exec = Jvm.exec) (hb : c.code = cc) (hl : l.stackTraces = false) {own cls text : String} {names : List String} {ik is ic mc ms sa : Nat} {A : Nat → Prop}
    (hown : s.vm.findClass own = some m.cls) (hcls : Bundle.fit cls = true) (hnames : ∀ n ∈ names, Bundle.fit n = true)
    (hk : (Cond.classLink own ik cls).before args s = true) (hini : (Cond.initialized cls).before args s = true) (hstr : vk_R own is text sa s) (hat : ∀ w ∈ vx_atS own ic cls names, w.before args s = true)
    (hgood : ∀ w ∈ Cond.classLink own ik cls :: Cond.initialized cls :: vx_atS own ic cls names, vx_ot w = true)
    (hU : vx_Zq Bundle.tN "UNASSIGNED_STACK" Bundle.steD A s s.heap) (hN : vx_Zq Bundle.tN "SUPPRESSED_SENTINEL" Bundle.listD A s s.heap) (hS : va_S A s.heap H locs) (hsize : ls.size = c.maxLocals)
    (d0 : decode cc pc = .ok (.new ik, 3)) (d3 : decode cc (pc + 3) = .ok (.dup, 1)) (d4 : decode cc (pc + 4) = .ok (.ldc_w is, 3)) (d7 : decode cc (pc + 7) = .ok (.invokespecial ic, 3)) (d10 : decode cc (pc + 10) = .ok (.athrow, 1))
    (hout : ∀ x ∈ c.exceptionTable.toList, covers x (pc + 10) = false)
    (hRframes : names.length + 3 < R.frames) (hRlocals : (rest.map fun v => v.category).sum + (13 * (names.length + 1) + 43) ≤ R.locals) (hRcells : cells + 1 ≤ R.cells) (hRslots : slots + 6 ≤ R.slots) (hlocks : meth.locks = false)
    (hx : ∀ t : State, s.vm.Alike t.vm → H.size ≤ t.heap.size → (∀ q : Nat, q < H.size → t.heap[q]? = H[q]?) → XC cls s t)
    (hf : ∀ z ∈ locs, free z.base) (hc : cells + 1 ≤ mc) (hs : slots + 6 ≤ ms) :
    W p l e R s m args below meth c H locs cells slots (vx_MQ below Qc XC args s mc ms free) (F0 m pc ls rest) := by
  intro T hT X
  have htr : e.platform.stackTraces = false := (show e.platform.stackTraces = l.stackTraces by rw [X.admits.platform]).trans hl
  have Y := vx_rebase X (R' := { frames := R.frames, locals := R.locals, cells := 1, slots := 6 }) (Nat.le_refl _) (Nat.le_refl _) hRcells hRslots
  obtain ⟨s', hA⟩ : ∃ z, z = (T.setVm s.vm).setFrames (.invoking m args :: below) := ⟨_, rfl⟩
  rw [← hA] at Y
  have hvm : s'.vm = s.vm := by rw [hA]; rfl
  have hhp : s'.heap = H := by rw [hA]; exact hT
  have hW0 : s.WarmedH s'.vm := by rw [hvm]; exact State.WarmedH.refl s
  have hat' : ∀ w ∈ vx_atS own ic cls names, w.before args s' = true := fun w hw => vx_ot_at hW0 hvm.symm (hgood w (List.mem_cons_of_mem _ (List.mem_cons_of_mem _ hw))) (hat w hw)
  have hk' : (Cond.classLink own ik cls).before args s' = true := vx_ot_at hW0 hvm.symm (hgood _ List.mem_cons_self) hk
  have hini' : (Cond.initialized cls).before args s' = true := vx_ot_at hW0 hvm.symm (hgood _ (List.mem_cons_of_mem _ List.mem_cons_self)) hini
  have hU' : vx_Zq Bundle.tN "UNASSIGNED_STACK" Bundle.steD A s' s'.heap := by rw [hhp]; exact vx_Zq.moved hW0.alike (hU.kept hS.2.1)
  have hN' : vx_Zq Bundle.tN "SUPPRESSED_SENTINEL" Bundle.listD A s' s'.heap := by rw [hhp]; exact vx_Zq.moved hW0.alike (hN.kept hS.2.1)
  have h : ∀ w ∈ Bundle.ownAtoms own ic cls names, w.before args s' = true := vx_own hat' (vx_isRefq hU'.1) (vx_isRefq hN'.1) hU'.2.word hN'.2.word
  have hown' : s'.vm.findClass own = some m.cls := by rw [hvm]; exact hown
  have hins : (Cond.instantiable cls 6).before args s' = true := h _ (by simp [Bundle.ownAtoms])
  obtain ⟨vm₁, cX, kX, hfX, hkX, -, -, X₁, st1⟩ := Y.newCold hexec (own := own) (C := cls) (index := ik) (n := 6) hown' hk' hins hini'
    (g := F0 m pc ls rest) rfl (by rw [hb]; exact d0) (Nat.le_refl _) (Nat.le_refl _)
  generalize hT1 : (T.setVm vm₁).pushCell { cls := cX, slots := kX.instanceTypes.map defaultValue, vm := .none } = T1 at X₁ st1
  have hcat : (Value.ref T.heap.size).category = 1 := rfl
  have hcellA : T1.heap[T.heap.size]? = some (freshCell cX kX) := by rw [← hT1]; exact State.heap_pushCell_size _ _
  have d3' : decode c.code (pc + 3) = .ok (.dup, 1) := by rw [hb]; exact d3
  have d4' : decode c.code (pc + 4) = .ok (.ldc_w is, 3) := by rw [hb]; exact d4
  have hstr' : vk_R own is text sa s' := vk_R.warm hW0 hstr
  obtain ⟨U, hsteps, hrun, hend, hW, hsame, ce, hce, hO⟩ := X₁.ctorThrowS hexec htr (own := own) (cls := cls) (names := names) (ic := ic) hown' hcls hnames h (fun x hx => nomatch hx) hfX hkX hcellA (by rw [hhp, hT]; exact Nat.le_refl _) (msg := .ref sa) rfl
    (g := { method := m, pc := pc + 7, locals := ls, stack := .ref sa :: .ref T.heap.size :: .ref T.heap.size :: rest, locked := none }) rfl hsize rfl rfl (rest := rest) rfl
    (by rw [hb]; exact d7) (by rw [hb]; exact d10) hout hRframes (by simp only [List.map_cons, List.sum_cons, hcat]; omega) hlocks
  obtain ⟨f1, f2⟩ := vx_frame hsame
  rw [hhp] at f1 f2
  have hWs : s.WarmedH U.vm := State.WarmedH.trans hW0 hW
  have hcl : s.vm.findClass cls = some ce.cls := by
    have h9 := hO.cls
    rw [hvm] at h9
    exact h9
  have hall : s.sameButNew ({ U with vm := s.vm } : State) locs mc ms := by
    subst hA
    obtain ⟨e1, e2⟩ := hsame
    rw [State.setFrames_setFrames] at e1
    have h2 : (T.setVm s.vm).sameButNew ({ U with vm := s.vm } : State) [] (0 + 1) (0 + 6) := ⟨e1, e2⟩
    have h3 := X.same.trans h2
    rw [List.append_nil] at h3
    exact h3.mono hc hs
  refine ⟨U, ?_, .threw T.heap.size, hrun, hend, Or.inr ⟨T.heap.size, rfl, cls, ce, locs, hx U hWs.alike f1 (fun q hq => f2 q hq (fun z hz => nomatch hz)), hce, hO.vm, hcl, hWs, hall, hf⟩⟩
  refine st1 _ ?_
  show Steps p.tables e below (T1.setTop { method := m, pc := pc + 3, locals := ls, stack := .ref T.heap.size :: rest, locked := none }) _
  jvm_step X₁.here [X₁.here.top, hexec, d3', Value.category]
  exact X₁.ldcStringW hexec (own := own) (text := text) (index := is) (a := sa) hown' hstr'.1 hstr'.2
    (g := { method := m, pc := pc + 4, locals := ls, stack := .ref T.heap.size :: .ref T.heap.size :: rest, locked := none }) rfl d4' _ hsteps
end Ends
section Bodies
variable {l : Launch}
theorem vx_ofW {y : MethodName} {ws ws' : List Cond} {rm : Room} {Pc : Array Value → State → Prop} {Qc : Array Value → State → Outcome → State → Prop} {XC : String → State → State → Prop} {mc ms : Nat} {free : Addr → Prop} {cc : ByteArray} {maxL : Nat} {ret : Option FieldType}
    (hy : plainName y.cls = true) (hw : ws = Cond.code y cc maxL ret :: ws')
    (body : ∀ p e s m args below meth c s₁, BodyLoose p l y (headSpec ws rm) cc maxL ret e s m args below meth c s₁ → c.maxLocals = maxL → (∀ x ∈ c.exceptionTable.toList, False) → Pc args s →
      W p l e (headSpec ws rm).room s m args below meth c s.heap [] 0 0 (vx_MQ below Qc XC args s mc ms free) (entryFrame m args maxL)) : vx_Met l y ws rm Pc Qc XC mc ms free := by
  refine MetFree.of_bodyS (code := cc) (maxLocals := maxL) (ret := ret) hy ?_ ?_
  · intro args s m h hn
    obtain ⟨meth, c, h1, h2, h3, h4, h5, h6, -, -⟩ := Cond.code_spec hn (atoms_spec (ws := ws) h _ (by rw [hw]; exact List.mem_cons_self))
    exact ⟨meth, c, h1, h2, h3, h4, h5, h6⟩
  · intro p e s m args below meth c s₁ B hml hP _
    have hh0 : s₁.heap = s.heap := by rw [B.state]; rfl
    have ht : ∀ x ∈ c.exceptionTable.toList, False := by
      obtain ⟨meth9, c9, h1, h2, -, -, -, -, h7, -⟩ := Cond.code_spec B.named (atoms_spec (ws := ws) B.pre _ (by rw [hw]; exact List.mem_cons_self))
      cases Option.some.inj (h1.symm.trans B.method)
      cases Option.some.inj (h2.symm.trans (Stand.of_body B).code)
      intro x hx
      rw [Array.isEmpty_iff.mp h7] at hx
      cases hx
    obtain ⟨t, a1, o, b1, b2, b3⟩ := body p e s m args below meth c s₁ B hml ht hP s₁ hh0 (Stand.of_body B)
    exact ⟨t, o, a1, b1, b2, b3⟩
/-- the table of a body with handlers -/
theorem vx_table {p : Program} {x y : MethodName} {S : Spec} {cc bytes : ByteArray} {maxL maxL' : Nat} {ret ret' : Option FieldType} {e : Env} {s s₁ : State} {m : MethodId} {args : Array Value} {below : List Frame} {meth : Method} {c : Code} {hh : List (Nat × Nat × Nat × Nat)}
    (B : BodyLoose p l y S cc maxL ret e s m args below meth c s₁) (h : (Cond.codeWith y bytes maxL' ret' hh).before args s = true) : c.exceptionTable.toList = tableOf hh := by
  obtain ⟨m9, meth9, c9, hn9, h1, h2, -, -, h6, -⟩ := Cond.codeWith_spec h
  cases Option.some.inj (hn9.symm.trans B.named)
  cases Option.some.inj (h1.symm.trans B.method)
  cases Option.some.inj (h2.symm.trans (Stand.of_body B).code)
  rw [← h6, table_eq]
end Bodies
end VXA
/-! ===== END ===== -/
/-! ===== BEGIN a static call of a method with an exception table ===== -/
section VXS
variable {p : Program} {l : Launch} {e : Env} {R : Room} {s : State} {m : MethodId} {args : Array Value} {below : List Frame} {meth : Method} {c : Code} {T : State} {H : Heap} {locs : List Loc} {cells slots : Nat}
abbrev vx_CSW (R : Room) (s : State) (args : Array Value) (own : String) (index : Nat) (y : MethodName) (bytes : ByteArray) (maxL : Nat) (ret : Option FieldType) (hh : List (Nat × Nat × Nat × Nat)) (ws : List Cond) (rm : Room) (mc ms n : Nat) : Prop :=
  (rm.cells = mc ∧ rm.slots = ms ∧ rm.frames + 1 ≤ R.frames ∧ 8 + (maxL + 11) + rm.locals ≤ R.locals ∧ (∀ w ∈ ws, ∀ (a' : Array Value) (U : State), s.WarmedH U.vm → w.before a' U = true) ∧ Cond.codeWith y bytes maxL ret hh ∈ ws) ∧
  (Cond.codeWith y bytes maxL ret hh).before args s = true ∧ (Cond.initialized y.cls).before args s = true ∧ (y.cls ≠ "java/lang/invoke/MethodHandle" ∧ y.cls ≠ "java/lang/invoke/VarHandle") ∧
  (∀ sig, parseMethodDescriptor y.desc = some sig → n = sig.parameters.length) ∧ (Cond.methodLink own index y).before args s = true ∧ (Cond.static y).before args s = true
theorem vx_cwSW {own : String} {index maxL mc ms : Nat} {y : MethodName} {bytes : ByteArray} {ret : Option FieldType} {hh : List (Nat × Nat × Nat × Nat)} {Ts ws ws' : List Cond} {rm : Room} (n : Nat) (ht : ∀ w ∈ Ts, w.before args s = true) (hT : GoodIn Ts (va_wsS own index y ws)) (hw : ws = Cond.codeWith y bytes maxL ret hh :: ws') (hrc : rm.cells = mc) (hrs : rm.slots = ms)
    (hd : y.cls ≠ "java/lang/invoke/MethodHandle" ∧ y.cls ≠ "java/lang/invoke/VarHandle" ∧ (parseMethodDescriptor y.desc).map (fun d => d.parameters.length) = some n) (hR : rm.frames + 1 ≤ R.frames ∧ 8 + (maxL + 11) + rm.locals ≤ R.locals) :
    vx_CSW R s args own index y bytes maxL ret hh ws rm mc ms n := by
  have ok : ∀ w ∈ va_wsS own index y ws, w.before args s = true := fun w h => ht w (hT w h).1
  have hG : GoodIn Ts ws := fun w h => hT w (by unfold va_wsS; exact List.mem_append_right _ h)
  have hc : Cond.codeWith y bytes maxL ret hh ∈ ws := by rw [hw]; exact List.mem_cons_self
  refine ⟨⟨hrc, hrs, hR.1, hR.2, pay_in ht hG, hc⟩, ht _ (hG _ hc).1, ok _ (by simp [va_wsS]), ⟨hd.1, hd.2.1⟩, fun sig h => ?_, ok _ (by simp [va_wsS]), ok _ (by simp [va_wsS])⟩
  have h2 := hd.2.2
  rw [h] at h2
  exact (Option.some.inj h2).symm
theorem vx_callSW (X : Stand p l e R s m args below meth c T locs cells slots) (hexec : p.tables.exec = Jvm.exec) {own : String} {index : Nat} {y : MethodName} {bytes : ByteArray} {maxL : Nat} {ret : Option FieldType} {hh : List (Nat × Nat × Nat × Nat)}
    (hown : s.vm.findClass own = some m.cls) (hlink : (Cond.methodLink own index y).before args s = true) (hstat : (Cond.static y).before args s = true) (hinit : (Cond.initialized y.cls).before args s = true)
    (hcode : (Cond.codeWith y bytes maxL ret hh).before args s = true) (hy : y.cls ≠ "java/lang/invoke/MethodHandle" ∧ y.cls ≠ "java/lang/invoke/VarHandle")
    {W9 : Nat} {Pre : Pt → Array Value → Prop} {Post : Pt → Array Value → Option Value → Pt → Prop} (hK : Back l R p e below s args y 3 W9 Pre Post)
    {g : JFrame} (hg : g.method = m) (hsize : g.locals.size = c.maxLocals) {argsL rest : List Value} (hlen : ∀ sig, parseMethodDescriptor y.desc = some sig → argsL.length = sig.parameters.length)
    (hstack : g.stack = argsL.reverse ++ rest) (hW : 2 * g.monitorRoom + (rest.map fun v => v.category).sum ≤ W9) (hdg : decode c.code g.pc = .ok (.invokestatic index, 3))
    (hpre : ∀ vm₁, s.WarmedH vm₁ → Pre ⟨T.setVm vm₁, locs, cells, slots⟩ argsL.toArray) :
    ∃ (v : Option Value) (vm₁ : Vm) (B : Pt), s.WarmedH vm₁ ∧ Stand p l e R s m args below meth c B.U B.locs B.cells B.slots ∧ Post ⟨T.setVm vm₁, locs, cells, slots⟩ argsL.toArray v B ∧
      ∀ target, Steps p.tables e below (B.U.setTop { g with pc := g.pc + 3, stack := v.toList ++ rest }) target → Steps p.tables e below (T.setTop g) target := by
  obtain ⟨mk, methM, cM, hnamed, hmethM, -, -, -, -, -, -, hsigM⟩ := Cond.codeWith_spec hcode
  have hstatic : methM.isStatic = true := Cond.static_spec hnamed hmethM hstat
  obtain ⟨kP, hkP, -⟩ := className_of_methodNamed hnamed
  have hinitP : kP.init = .initialized := Cond.initialized_spec (findClass_of_methodNamed hnamed) hkP hinit
  obtain ⟨vm₁, X₁, hstep₁⟩ := X.invokestatic hexec hown hlink hnamed hmethM hstatic hkP hinitP hy (g := g) hg (argsL := argsL) (rest := rest) (hlen _ hsigM) hstack hdg
  obtain ⟨v, B, X', hpost, hsteps⟩ := hK m meth c ⟨T.setVm vm₁, locs, cells, slots⟩ { g with stack := rest } (.invokestatic index) mk argsL.toArray X₁ hg hsize hdg hW (X₁.named hnamed) (hpre vm₁ X₁.warmed)
  exact ⟨v, vm₁, B, X₁.warmed, X', hpost, fun target h => hstep₁ _ fun acts => by rw [doInvoke_state]; exact hsteps.trans h⟩
theorem vx_runSW {y : MethodName} {bytes cc : ByteArray} {maxL nL mc ms n index : Nat} {ret : Option FieldType} {hh : List (Nat × Nat × Nat × Nat)} {ws : List Cond} {rm : Room} {Pc : Array Value → State → Prop} {Qc : Array Value → State → Outcome → State → Prop} {free : Addr → Prop} {Ts : List Cond} {own : String} {As rest : List Value} {g : JFrame}
    (S : CallFix p m c cc nL s args Ts own) (hM : Met l y ws rm Pc Qc mc ms free) (cw : vx_CSW R s args own index y bytes maxL ret hh ws rm mc ms n) (hp : PreS s H Pc As)
    (hg : g.method = m) (hn : As.length = n) (hsize : g.locals.size = nL) (hstack : g.stack = As.reverse ++ rest) (hW : 2 * g.monitorRoom + (rest.map fun v => v.category).sum ≤ 8) (hdg : decode cc g.pc = .ok (.invokestatic index, 3)) (hf : cells + mc ≤ R.cells ∧ slots + ms ≤ R.slots) :
    va_Run p l e R s m args below meth c H locs cells slots mc ms g rest (Qc As.toArray) (free) := by
  obtain ⟨⟨hrc, hrs, hfr, hlo, hws, hcw⟩, hcode, hini, hy, hlen, hl, hstt⟩ := cw
  have hK : Back l R p e below s args y 3 8 (PreOf R mc ms Pc) (PostOf Qc mc ms free) := va_backW (hh := hh) (bytes := bytes) (maxL := maxL) (ret := ret) hM hp.1 hrc hrs hfr hlo hws hcw (fun a' U hW => word_at hW (Or.inl (by first | rfl | simp [Cond.onTables, Cond.keeps, Cond.steady])) hini)
  obtain ⟨hx, hb, hml, ho, -⟩ := S
  intro T hT X
  obtain ⟨v, vm₁, ⟨U', l2, c2, s2⟩, hW₁, X', ⟨g', mk, t, L, e1, e2, hq, h1, hL, h2, h3⟩, st⟩ := vx_callSW X hx (hh := hh) (bytes := bytes) (maxL := maxL) (ret := ret) ho hl hstt hini hcode hy hK hg (hsize.trans hml.symm) (argsL := As) (rest := rest) (fun sig h => hn.trans (hlen sig h)) hstack hW (by rw [hb]; exact hdg)
    (fun vm₁ hW₁ => ⟨hf.1, hf.2, hp.2 (T.setVm vm₁) hT hW₁⟩)
  dsimp only [Pt.U, Pt.locs, Pt.cells, Pt.slots] at X' e1 e2 h1 h2 h3 st
  subst h1; subst h2; subst h3
  exact ⟨v, (T.setVm vm₁).calling g' mk As.toArray, t, U', L, hT, X', hL, e1, e2, hq, st⟩
/-- not caught here, past rows that name other classes: it goes on to the caller -/
theorem vx_outP {p : Program} {l : Launch} {e : Env} {R : Room} {s : State} {m : MethodId} {args : Array Value} {below : List Frame} {meth : Method} {c : Code} {H : Heap} {locs : List Loc} {cells slots : Nat} {free : Addr → Prop} {ls : Array Slot} {rest : List Value} {Qc : Array Value → State → Outcome → State → Prop} {XC : String → State → State → Prop}
    {pc : Nat} {own E : String} {ce : Cell} {q : Addr} {mc ms : Nat} (hown : s.vm.findClass own = some m.cls) (hlocks : meth.locks = false)
    (hpass : ∀ z ∈ c.exceptionTable.toList, covers z pc = false ∨ (z.catchType ≠ 0 ∧ ∃ nm : String, (Cond.classLink own z.catchType nm).before args s = true ∧ va_Nc E nm s)) (hcell : H[q]? = some ce) (hv : ce.vm = .none) (hcl : s.vm.findClass E = some ce.cls)
    (hx : ∀ t : State, t.heap = H → s.vm.Alike t.vm → XC E s t) (hf : ∀ z ∈ locs, free z.base) (hc : cells ≤ mc) (hs : slots ≤ ms) :
    vx_W p l e R s m args below meth c H locs cells slots (vx_MQ below Qc XC args s mc ms free) (F0 m pc ls rest) q := by
  intro T hT X
  have hpl : e.platform.magicAccessors = ({} : Platform).magicAccessors := by rw [X.admits.platform]
  obtain ⟨vm', hW', X', st⟩ := X.outThrough hlocks q (g := F0 m pc ls rest) rfl rfl rfl (cell := ce) (by rw [hT]; exact hcell) (by rw [hv]; rfl)
    (by obtain ⟨k9, h9, -⟩ := Vm.findClass_spec hcl; exact ⟨k9, h9⟩) (fun z hz => by
      rcases hpass z hz with h | ⟨hz0, nm, hl1, hn1⟩
      · exact Or.inl h
      · obtain ⟨c6, hc6, hcl6⟩ := Cond.classLink_spec hown hl1 e.platform hpl
        obtain ⟨a8, b8, h1, h2, h3⟩ := hn1
        cases Option.some.inj (h1.symm.trans hcl)
        cases Option.some.inj (h2.symm.trans hc6)
        exact Or.inr ⟨hz0, _, hcl6, h3⟩)
  obtain ⟨g₀, hfr⟩ := X'.frames_eq
  have hcell9 : ((T.setVm vm').setFrames (.throwing q :: below)).heap[q]? = some ce := by
    show T.heap[q]? = some ce
    rw [hT]; exact hcell
  have hend : Ended ((T.setVm vm').setFrames (.throwing q :: below)) below (.threw q) := State.frames_setFrames _ (State.cur_lt_of_frames hfr)
  refine ⟨(T.setVm vm').setFrames (.throwing q :: below), ?_, .threw q, X'.here.running, hend, Or.inr ⟨q, rfl, E, ce, locs, hx _ hT (X'.ends _).1.alike, hcell9, hv, hcl, (X'.ends _).1, (X'.ends _).2.mono hc hs, hf⟩⟩
  rw [X.pushThrowing_eq]
  exact st
/-- a thing of a world lies in the heap -/
theorem vx_lt {D : va_G} {cl : List vw_C} {ws : va_W} {H1 : Heap} (h : va_P D cl ws H1) {k : Nat} {q : Nat × va_E} (hk : ws[k]? = some q) : q.1 < H1.size := (h k q hk).lt
end VXS
/-! ===== END ===== -/
/-! ===== BEGIN methods with a table of their own: called by a name, returning or throwing ===== -/
section VXH
/-! vx_backW, vx_callVX, vx_callSX, vx_callVW, vx_runVW, vx_runVX, vx_runSX, vx_ofWH follow the same proofs as their sisters above (Free/Laws.lean, Shelf42/LK1.lean); vx_outP calls Shelf42/NT130.lean (outThrough). -/
section
variable {l : Launch} {R : Room} {p : Program} {e : Env} {below : List Frame} {s : State} {sargs : Array Value} {y : MethodName} {len W9 : Nat}
theorem vx_backW {ws : List Cond} {rm : Room} {Pc : Array Value → State → Prop} {Qc : Array Value → State → Outcome → State → Prop} {XC : String → State → State → Prop} {mc ms : Nat} {free : Addr → Prop} {bytes : ByteArray} {maxL : Nat} {ret : Option FieldType} {hh : List (Nat × Nat × Nat × Nat)}
    (hM : vx_Met l y ws rm Pc Qc XC mc ms free) (hblind : FrameBlind Pc) (hrc : rm.cells = mc) (hrs : rm.slots = ms)
    (hframes : rm.frames + 1 ≤ R.frames) (hlocals : W9 + (maxL + 11) + rm.locals ≤ R.locals)
    (hws : ∀ w ∈ ws, ∀ a' U, s.WarmedH U.vm → w.before a' U = true) (hcode : Cond.codeWith y bytes maxL ret hh ∈ ws) (hinit : ∀ a' U, s.WarmedH U.vm → (Cond.initialized y.cls).before a' U = true) :
    vx_Back l R p e below s sargs y len W9 (PreOf R mc ms Pc) (PostOf Qc mc ms free) (vx_Post XC mc ms free) := by
  intro m meth c A g ig mk a X hg hsize hdg hW hn hp
  have h1 : (headSpec ws rm).pre.before a A.U = true := atoms_intro fun w hw => hws w hw _ _ X.warmed
  have h2 : (Cond.codeWith y bytes maxL ret hh).before a A.U = true := hws _ hcode _ _ X.warmed
  have h3 : (Cond.initialized y.cls).before a A.U = true := hinit _ _ X.warmed
  have h4 : A.cells + (headSpec ws rm).room.cells ≤ R.cells := by rw [show (headSpec ws rm).room.cells = mc from hrc]; exact hp.1
  have h5 : A.slots + (headSpec ws rm).room.slots ≤ R.slots := by rw [show (headSpec ws rm).room.slots = ms from hrs]; exact hp.2.1
  have hPc : Pc a (A.U.calling g mk a) := hblind _ _ _ _ hp.2.2
  obtain ⟨U, Ls, c0, s0⟩ := A
  dsimp only [Pt.U, Pt.locs, Pt.cells, Pt.slots] at h1 h2 h3 h4 h5 X hn hPc ⊢
  obtain ⟨m9, methY, cY, hn9, hmY, hcY, -, hlY, -⟩ := Cond.codeWith_spec h2
  cases Option.some.inj (hn9.symm.trans hn)
  obtain ⟨kY, hkY, -⟩ := className_of_methodNamed hn
  have hinitY : kY.init = .initialized := Cond.initialized_spec (findClass_of_methodNamed hn) hkY h3
  have h : At U g.method c below := by rw [hg]; exact X.here
  have hlocals9 : W9 + (maxL + 11) + (headSpec ws rm).room.locals ≤ R.locals := hlocals
  have happ : (headSpec ws rm).appliesLoose y e.platform (U.calling g mk a) = true :=
    Spec.appliesLoose_calling (g := g) h hdg hn hkY hinitY
      (X.room_calling (g := g) (R' := (headSpec ws rm).room) hsize hmY hcY hframes (by rw [hlY]; omega) h4 h5) h1
  obtain ⟨mid, hmid⟩ := h.above
  have hfr : (U.setTop g).frames = (.java g :: mid) ++ below := by rw [State.frames_setTop' g h.top, hmid]; rfl
  obtain ⟨o, s₂, hsteps, -, hend, hq⟩ := Steps.callFree hM p X.admits X.cas X.clock (acts := []) hfr happ hPc trivial
  have hq' : vx_Q Qc XC mc ms free a (U.calling g mk a) o s₂ := hq
  rw [State.frames_setTop' g h.top] at hend
  obtain ⟨g₀, hg0⟩ := Option.isSome_iff_exists.mp h.top
  obtain ⟨r, hr⟩ := State.topJava?_eq_some.mp hg0
  have hr' : (({ U with heap := s₂.heap, slotsUsed := s₂.slotsUsed } : State).setVm s₂.vm).frames = .java g₀ :: r := hr
  rcases hq' with ⟨hqc, L, hfe, hL⟩ | ⟨q, rfl, E, ce, L, hx, hce, hcv, hcl, hW₂, hsm, hL⟩
  · obtain ⟨⟨v, rfl⟩, hW₂, e2, q2, q3, q4, q5, q6⟩ := id hfe
    have e3 : s₂ = ({ (U.calling g mk a).setFrames s₂.frames with heap := s₂.heap, slotsUsed := s₂.slotsUsed } : State).setVm s₂.vm := by
      have : s₂ = ({ s₂ with vm := (U.calling g mk a).vm } : State).setVm s₂.vm := rfl
      rw [e2] at this
      exact this
    obtain ⟨c₂, i₂, len₂, hc₂, hd₂, hf₂⟩ := hend
    have hW' : U.WarmedH s₂.vm := hW₂
    have hcc : c₂ = c := by
      have h1 : s₂.code? g.method = U.code? g.method := by
        rw [State.code?_eq, State.code?_eq, hW'.alike.method?]
      exact Option.some.inj (hc₂.symm.trans (h1.trans h.code))
    subst hcc
    have hlen : len₂ = len := by rw [hdg] at hd₂; cases hd₂; rfl
    subst hlen
    have hs₂ : s₂ = (({ U with heap := s₂.heap, slotsUsed := s₂.slotsUsed } : State).setVm s₂.vm).setTop { g with pc := g.pc + len₂, stack := v.toList ++ g.stack } := by
      refine e3.trans ?_
      rw [hf₂, State.calling_eq h.top, State.setFrames_setFrames, State.setTop_of_frames _ hr', hr]
      rfl
    have hsame : U.sameButNew ({ U with heap := s₂.heap, slotsUsed := s₂.slotsUsed } : State) L mc ms := by
      refine ⟨?_, q2, q3, q4, q5, q6⟩
      obtain ⟨t, ht, -⟩ := State.frames_cons hr
      show ({ U with heap := s₂.heap, slotsUsed := s₂.slotsUsed } : State) = { U.setFrames U.frames with heap := s₂.heap, slotsUsed := s₂.slotsUsed }
      rw [State.setFrames_self ht]
    subst hg
    refine Or.inl ⟨v, ⟨(({ U with heap := s₂.heap, slotsUsed := s₂.slotsUsed } : State).setVm s₂.vm), Ls ++ L, c0 + mc, s0 + ms⟩,
      ⟨X.admits, X.cas, X.clock, X.frames, X.room, X.hears, X.method, X.code, (X.here.setHeapUsed s₂.heap s₂.slotsUsed).setVm hW'.alike, X.tail, State.WarmedH.trans X.warmed hW', X.limits, X.bytes, X.same.trans (hsame.setVm s.vm)⟩,
      ⟨g, mk, s₂, L, rfl, rfl, hqc, rfl, hL, rfl, rfl⟩, ?_⟩
    show Steps p.tables e below _ ((({ U with heap := s₂.heap, slotsUsed := s₂.slotsUsed } : State).setVm s₂.vm).setTop { g with pc := g.pc + len₂, stack := v.toList ++ g.stack })
    rw [← hs₂]
    exact hsteps
  · obtain ⟨e2, q2, q3, q4, q5, q6⟩ := id hsm
    have e3 : s₂ = ({ (U.calling g mk a).setFrames s₂.frames with heap := s₂.heap, slotsUsed := s₂.slotsUsed } : State).setVm s₂.vm := by
      have : s₂ = ({ s₂ with vm := (U.calling g mk a).vm } : State).setVm s₂.vm := rfl
      rw [e2] at this
      exact this
    have hf₂ : s₂.frames = .throwing q :: .java g :: U.frames.tail := hend
    have hW' : U.WarmedH s₂.vm := hW₂
    have hs₂ : s₂ = ((({ U with heap := s₂.heap, slotsUsed := s₂.slotsUsed } : State).setVm s₂.vm).setTop g).pushFrame (.throwing q) := by
      refine e3.trans ?_
      rw [hf₂, State.calling_eq h.top, State.setFrames_setFrames, State.pushFrame, State.frames_setTop _ hr', State.setTop_of_frames _ hr', State.setFrames_setFrames, hr]
      rfl
    have hsame : U.sameButNew ({ U with heap := s₂.heap, slotsUsed := s₂.slotsUsed } : State) L mc ms := by
      refine ⟨?_, q2, q3, q4, q5, q6⟩
      obtain ⟨t, ht, -⟩ := State.frames_cons hr
      show ({ U with heap := s₂.heap, slotsUsed := s₂.slotsUsed } : State) = { U.setFrames U.frames with heap := s₂.heap, slotsUsed := s₂.slotsUsed }
      rw [State.setFrames_self ht]
    subst hg
    refine Or.inr ⟨q, ⟨(({ U with heap := s₂.heap, slotsUsed := s₂.slotsUsed } : State).setVm s₂.vm), Ls ++ L, c0 + mc, s0 + ms⟩,
      ⟨X.admits, X.cas, X.clock, X.frames, X.room, X.hears, X.method, X.code, (X.here.setHeapUsed s₂.heap s₂.slotsUsed).setVm hW'.alike, X.tail, State.WarmedH.trans X.warmed hW', X.limits, X.bytes, X.same.trans (hsame.setVm s.vm)⟩,
      ⟨g, mk, s₂, L, E, ce, rfl, rfl, hx, hce, hcv, hcl, rfl, hL, rfl, rfl⟩, ?_⟩
    show Steps p.tables e below _ (((({ U with heap := s₂.heap, slotsUsed := s₂.slotsUsed } : State).setVm s₂.vm).setTop g).pushFrame (.throwing q))
    rw [← hs₂]
    exact hsteps
end
variable {p : Program} {l : Launch} {e : Env} {R : Room} {s : State} {m : MethodId} {args : Array Value} {below : List Frame} {meth : Method} {c : Code} {T : State} {H : Heap} {locs : List Loc} {cells slots : Nat}
theorem vx_callVX (X : Stand p l e R s m args below meth c T locs cells slots) (hexec : p.tables.exec = Jvm.exec) {own C : String} {index : Nat} {y : MethodName} {bytes : ByteArray} {maxL : Nat} {ret : Option FieldType} {hh : List (Nat × Nat × Nat × Nat)}
    (hown : s.vm.findClass own = some m.cls) (hlink : (Cond.methodLink own index y).before args s = true) (hinst : (Cond.instanceMethod y).before args s = true) (hsel : (Cond.selects C y y).before args s = true)
    (hcode : (Cond.codeWith y bytes maxL ret hh).before args s = true) (hy : y.cls ≠ "java/lang/invoke/MethodHandle" ∧ y.cls ≠ "java/lang/invoke/VarHandle")
    {W9 : Nat} {Pre : Pt → Array Value → Prop} {Post : Pt → Array Value → Option Value → Pt → Prop} {PostX : Pt → Array Value → Addr → Pt → Prop} (hK : vx_Back l R p e below s args y 3 W9 Pre Post PostX)
    {b : Addr} {cellB : Cell} (hcell : T.heap[b]? = some cellB) (hobj : cellB.vm.isStatics = false) (hcls : s.vm.findClass C = some cellB.cls)
    {g : JFrame} (hg : g.method = m) (hsize : g.locals.size = c.maxLocals) {argsL rest : List Value} (hlen : ∀ sig, parseMethodDescriptor y.desc = some sig → argsL.length = sig.parameters.length)
    (hstack : g.stack = argsL.reverse ++ .ref b :: rest) (hW : 2 * g.monitorRoom + (rest.map fun v => v.category).sum ≤ W9) (hdg : decode c.code g.pc = .ok (.invokevirtual index, 3))
    (hpre : ∀ vm₁, s.WarmedH vm₁ → Pre ⟨T.setVm vm₁, locs, cells, slots⟩ (Value.ref b :: argsL).toArray) :
    (∃ (v : Option Value) (vm₁ : Vm) (B : Pt), s.WarmedH vm₁ ∧ Stand p l e R s m args below meth c B.U B.locs B.cells B.slots ∧ Post ⟨T.setVm vm₁, locs, cells, slots⟩ (Value.ref b :: argsL).toArray v B ∧
      ∀ target, Steps p.tables e below (B.U.setTop { g with pc := g.pc + 3, stack := v.toList ++ rest }) target → Steps p.tables e below (T.setTop g) target) ∨
    (∃ (q : Addr) (vm₁ : Vm) (B : Pt), s.WarmedH vm₁ ∧ Stand p l e R s m args below meth c B.U B.locs B.cells B.slots ∧ PostX ⟨T.setVm vm₁, locs, cells, slots⟩ (Value.ref b :: argsL).toArray q B ∧
      Steps p.tables e below (T.setTop g) ((B.U.setTop { g with stack := rest }).pushFrame (.throwing q))) := by
  obtain ⟨mk, methM, hnamed, hmethM, hstM, habM⟩ := Cond.instanceMethod_spec hinst
  obtain ⟨m8, methM', cM, hn8, hmethM', -, -, -, -, -, -, hsigM⟩ := Cond.codeWith_spec hcode
  cases Option.some.inj (hn8.symm.trans hnamed)
  cases hmethM.symm.trans hmethM'
  obtain ⟨c2, r2, m2, q1, q2, q3, q4, kP, hkP, hkPi⟩ := Cond.selects_spec hsel
  cases hcls.symm.trans q1
  cases (State.methodFound?_of_named hnamed hy).symm.trans q2
  cases hnamed.symm.trans q3
  have hselP : selectMethod e.platform s.vm cellB.cls mk = .method mk := by rw [Launch.admits_selectMethod X.admits]; exact q4
  obtain ⟨vm₁, X₁, hstep₁⟩ := X.invokevirtual hexec hown hlink hnamed hmethM hstM hkP hkPi hy (a := b) (cell := cellB) hcell
    (fun z h => by rw [h] at hobj; cases hobj) hselP hmethM habM hkP hkPi (g := g) hg (argsL := argsL) (rest := rest) (hlen _ hsigM) hstack hdg
  rcases hK m meth c ⟨T.setVm vm₁, locs, cells, slots⟩ { g with stack := rest } (.invokevirtual index) mk (Value.ref b :: argsL).toArray X₁ hg hsize hdg hW (X₁.named hnamed) (hpre vm₁ X₁.warmed) with ⟨v, B, X', hpost, hsteps⟩ | ⟨q, B, X', hpost, hsteps⟩
  · exact Or.inl ⟨v, vm₁, B, X₁.warmed, X', hpost, fun target h => hstep₁ _ fun acts => by rw [doInvoke_state]; exact hsteps.trans h⟩
  · exact Or.inr ⟨q, vm₁, B, X₁.warmed, X', hpost, hstep₁ _ fun acts => by rw [doInvoke_state]; exact hsteps⟩
theorem vx_callSX (X : Stand p l e R s m args below meth c T locs cells slots) (hexec : p.tables.exec = Jvm.exec) {own : String} {index : Nat} {y : MethodName} {bytes : ByteArray} {maxL : Nat} {ret : Option FieldType} {hh : List (Nat × Nat × Nat × Nat)}
    (hown : s.vm.findClass own = some m.cls) (hlink : (Cond.methodLink own index y).before args s = true) (hstat : (Cond.static y).before args s = true) (hinit : (Cond.initialized y.cls).before args s = true)
    (hcode : (Cond.codeWith y bytes maxL ret hh).before args s = true) (hy : y.cls ≠ "java/lang/invoke/MethodHandle" ∧ y.cls ≠ "java/lang/invoke/VarHandle")
    {W9 : Nat} {Pre : Pt → Array Value → Prop} {Post : Pt → Array Value → Option Value → Pt → Prop} {PostX : Pt → Array Value → Addr → Pt → Prop} (hK : vx_Back l R p e below s args y 3 W9 Pre Post PostX)
    {g : JFrame} (hg : g.method = m) (hsize : g.locals.size = c.maxLocals) {argsL rest : List Value} (hlen : ∀ sig, parseMethodDescriptor y.desc = some sig → argsL.length = sig.parameters.length)
    (hstack : g.stack = argsL.reverse ++ rest) (hW : 2 * g.monitorRoom + (rest.map fun v => v.category).sum ≤ W9) (hdg : decode c.code g.pc = .ok (.invokestatic index, 3))
    (hpre : ∀ vm₁, s.WarmedH vm₁ → Pre ⟨T.setVm vm₁, locs, cells, slots⟩ argsL.toArray) :
    (∃ (v : Option Value) (vm₁ : Vm) (B : Pt), s.WarmedH vm₁ ∧ Stand p l e R s m args below meth c B.U B.locs B.cells B.slots ∧ Post ⟨T.setVm vm₁, locs, cells, slots⟩ argsL.toArray v B ∧
      ∀ target, Steps p.tables e below (B.U.setTop { g with pc := g.pc + 3, stack := v.toList ++ rest }) target → Steps p.tables e below (T.setTop g) target) ∨
    (∃ (q : Addr) (vm₁ : Vm) (B : Pt), s.WarmedH vm₁ ∧ Stand p l e R s m args below meth c B.U B.locs B.cells B.slots ∧ PostX ⟨T.setVm vm₁, locs, cells, slots⟩ argsL.toArray q B ∧
      Steps p.tables e below (T.setTop g) ((B.U.setTop { g with stack := rest }).pushFrame (.throwing q))) := by
  obtain ⟨mk, methM, cM, hnamed, hmethM, -, -, -, -, -, -, hsigM⟩ := Cond.codeWith_spec hcode
  have hstatic : methM.isStatic = true := Cond.static_spec hnamed hmethM hstat
  obtain ⟨kP, hkP, -⟩ := className_of_methodNamed hnamed
  have hinitP : kP.init = .initialized := Cond.initialized_spec (findClass_of_methodNamed hnamed) hkP hinit
  obtain ⟨vm₁, X₁, hstep₁⟩ := X.invokestatic hexec hown hlink hnamed hmethM hstatic hkP hinitP hy (g := g) hg (argsL := argsL) (rest := rest) (hlen _ hsigM) hstack hdg
  rcases hK m meth c ⟨T.setVm vm₁, locs, cells, slots⟩ { g with stack := rest } (.invokestatic index) mk argsL.toArray X₁ hg hsize hdg hW (X₁.named hnamed) (hpre vm₁ X₁.warmed) with ⟨v, B, X', hpost, hsteps⟩ | ⟨q, B, X', hpost, hsteps⟩
  · exact Or.inl ⟨v, vm₁, B, X₁.warmed, X', hpost, fun target h => hstep₁ _ fun acts => by rw [doInvoke_state]; exact hsteps.trans h⟩
  · exact Or.inr ⟨q, vm₁, B, X₁.warmed, X', hpost, hstep₁ _ fun acts => by rw [doInvoke_state]; exact hsteps⟩
theorem vx_callVW (X : Stand p l e R s m args below meth c T locs cells slots) (hexec : p.tables.exec = Jvm.exec) {own C : String} {index : Nat} {y : MethodName} {bytes : ByteArray} {maxL : Nat} {ret : Option FieldType} {hh : List (Nat × Nat × Nat × Nat)}
    (hown : s.vm.findClass own = some m.cls) (hlink : (Cond.methodLink own index y).before args s = true) (hinst : (Cond.instanceMethod y).before args s = true) (hsel : (Cond.selects C y y).before args s = true)
    (hcode : (Cond.codeWith y bytes maxL ret hh).before args s = true) (hy : y.cls ≠ "java/lang/invoke/MethodHandle" ∧ y.cls ≠ "java/lang/invoke/VarHandle")
    {W9 : Nat} {Pre : Pt → Array Value → Prop} {Post : Pt → Array Value → Option Value → Pt → Prop} (hK : Back l R p e below s args y 3 W9 Pre Post)
    {b : Addr} {cellB : Cell} (hcell : T.heap[b]? = some cellB) (hobj : cellB.vm.isStatics = false) (hcls : s.vm.findClass C = some cellB.cls)
    {g : JFrame} (hg : g.method = m) (hsize : g.locals.size = c.maxLocals) {argsL rest : List Value} (hlen : ∀ sig, parseMethodDescriptor y.desc = some sig → argsL.length = sig.parameters.length)
    (hstack : g.stack = argsL.reverse ++ .ref b :: rest) (hW : 2 * g.monitorRoom + (rest.map fun v => v.category).sum ≤ W9) (hdg : decode c.code g.pc = .ok (.invokevirtual index, 3))
    (hpre : ∀ vm₁, s.WarmedH vm₁ → Pre ⟨T.setVm vm₁, locs, cells, slots⟩ (Value.ref b :: argsL).toArray) :
    ∃ (v : Option Value) (vm₁ : Vm) (B : Pt), s.WarmedH vm₁ ∧ Stand p l e R s m args below meth c B.U B.locs B.cells B.slots ∧ Post ⟨T.setVm vm₁, locs, cells, slots⟩ (Value.ref b :: argsL).toArray v B ∧
      ∀ target, Steps p.tables e below (B.U.setTop { g with pc := g.pc + 3, stack := v.toList ++ rest }) target → Steps p.tables e below (T.setTop g) target := by
  obtain ⟨mk, methM, hnamed, hmethM, hstM, habM⟩ := Cond.instanceMethod_spec hinst
  obtain ⟨m8, methM', cM, hn8, hmethM', -, -, -, -, -, -, hsigM⟩ := Cond.codeWith_spec hcode
  cases Option.some.inj (hn8.symm.trans hnamed)
  cases hmethM.symm.trans hmethM'
  obtain ⟨c2, r2, m2, q1, q2, q3, q4, kP, hkP, hkPi⟩ := Cond.selects_spec hsel
  cases hcls.symm.trans q1
  cases (State.methodFound?_of_named hnamed hy).symm.trans q2
  cases hnamed.symm.trans q3
  have hselP : selectMethod e.platform s.vm cellB.cls mk = .method mk := by rw [Launch.admits_selectMethod X.admits]; exact q4
  obtain ⟨vm₁, X₁, hstep₁⟩ := X.invokevirtual hexec hown hlink hnamed hmethM hstM hkP hkPi hy (a := b) (cell := cellB) hcell
    (fun z h => by rw [h] at hobj; cases hobj) hselP hmethM habM hkP hkPi (g := g) hg (argsL := argsL) (rest := rest) (hlen _ hsigM) hstack hdg
  obtain ⟨v, B, X', hpost, hsteps⟩ := hK m meth c ⟨T.setVm vm₁, locs, cells, slots⟩ { g with stack := rest } (.invokevirtual index) mk (Value.ref b :: argsL).toArray X₁ hg hsize hdg hW (X₁.named hnamed) (hpre vm₁ X₁.warmed)
  exact ⟨v, vm₁, B, X₁.warmed, X', hpost, fun target h => hstep₁ _ fun acts => by rw [doInvoke_state]; exact hsteps.trans h⟩
abbrev vx_CVW (R : Room) (s : State) (args : Array Value) (own C : String) (index : Nat) (y : MethodName) (bytes : ByteArray) (maxL : Nat) (ret : Option FieldType) (hh : List (Nat × Nat × Nat × Nat)) (ws : List Cond) (rm : Room) (mc ms n : Nat) : Prop :=
  (rm.cells = mc ∧ rm.slots = ms ∧ rm.frames + 1 ≤ R.frames ∧ 8 + (maxL + 11) + rm.locals ≤ R.locals ∧ (∀ w ∈ ws, ∀ (a' : Array Value) (U : State), s.WarmedH U.vm → w.before a' U = true) ∧ Cond.codeWith y bytes maxL ret hh ∈ ws) ∧
  (Cond.codeWith y bytes maxL ret hh).before args s = true ∧ (Cond.initialized y.cls).before args s = true ∧ (y.cls ≠ "java/lang/invoke/MethodHandle" ∧ y.cls ≠ "java/lang/invoke/VarHandle") ∧
  (∀ sig, parseMethodDescriptor y.desc = some sig → n = sig.parameters.length) ∧ (Cond.methodLink own index y).before args s = true ∧ (Cond.instanceMethod y).before args s = true ∧ (Cond.selects C y y).before args s = true
theorem vx_cwVW {own C : String} {index maxL mc ms : Nat} {y : MethodName} {bytes : ByteArray} {ret : Option FieldType} {hh : List (Nat × Nat × Nat × Nat)} {Ts ws ws' : List Cond} {rm : Room} (n : Nat) (ht : ∀ w ∈ Ts, w.before args s = true) (hT : GoodIn Ts (wsV own index C y ws)) (hw : ws = Cond.codeWith y bytes maxL ret hh :: ws') (hrc : rm.cells = mc) (hrs : rm.slots = ms)
    (hd : y.cls = C ∧ y.cls ≠ "java/lang/invoke/MethodHandle" ∧ y.cls ≠ "java/lang/invoke/VarHandle" ∧ (parseMethodDescriptor y.desc).map (fun d => d.parameters.length) = some n) (hR : rm.frames + 1 ≤ R.frames ∧ 8 + (maxL + 11) + rm.locals ≤ R.locals) :
    vx_CVW R s args own C index y bytes maxL ret hh ws rm mc ms n := by
  obtain ⟨hC, hd⟩ := hd
  subst hC
  have ok : ∀ w ∈ wsV own index y.cls y ws, w.before args s = true := fun w h => ht w (hT w h).1
  have hG : GoodIn Ts ws := fun w h => hT w (by unfold wsV; exact List.mem_append_right _ h)
  have hc : Cond.codeWith y bytes maxL ret hh ∈ ws := by rw [hw]; exact List.mem_cons_self
  refine ⟨⟨hrc, hrs, hR.1, hR.2, pay_in ht hG, hc⟩, ht _ (hG _ hc).1, ok _ (by simp [wsV]), ⟨hd.1, hd.2.1⟩, fun sig h => ?_, ok _ (by simp [wsV]), ok _ (by simp [wsV]), ok _ (by simp [wsV])⟩
  have h2 := hd.2.2
  rw [h] at h2
  exact (Option.some.inj h2).symm
theorem vx_runVW {y : MethodName} {bytes cc : ByteArray} {maxL nL mc ms n index : Nat} {ret : Option FieldType} {hh : List (Nat × Nat × Nat × Nat)} {ws : List Cond} {rm : Room} {Pc : Array Value → State → Prop} {Qc : Array Value → State → Outcome → State → Prop} {free : Addr → Prop} {Ts : List Cond} {own C : String} {b : Addr} {As rest : List Value} {g : JFrame}
    (S : CallFix p m c cc nL s args Ts own) (hM : Met l y ws rm Pc Qc mc ms free) (cw : vx_CVW R s args own C index y bytes maxL ret hh ws rm mc ms n) (hp : PreV s H C b Pc As)
    (hg : g.method = m) (hn : As.length = n) (hsize : g.locals.size = nL) (hstack : g.stack = As.reverse ++ .ref b :: rest) (hW : 2 * g.monitorRoom + (rest.map fun v => v.category).sum ≤ 8) (hdg : decode cc g.pc = .ok (.invokevirtual index, 3)) (hf : cells + mc ≤ R.cells ∧ slots + ms ≤ R.slots) :
    va_Run p l e R s m args below meth c H locs cells slots mc ms g rest (Qc (Value.ref b :: As).toArray) free := by
  obtain ⟨⟨hrc, hrs, hfr, hlo, hws, hcw⟩, hcode, hini, hy, hlen, hl, hin, hse⟩ := cw
  have hK : Back l R p e below s args y 3 8 (PreOf R mc ms Pc) (PostOf Qc mc ms free) := va_backW (hh := hh) (bytes := bytes) (maxL := maxL) (ret := ret) hM hp.1 hrc hrs hfr hlo hws hcw (fun a' U hW => word_at hW (Or.inl (by first | rfl | simp [Cond.onTables, Cond.keeps, Cond.steady])) hini)
  obtain ⟨hx, hb, hml, ho, -⟩ := S
  obtain ⟨-, ⟨cellB, hcB, hoB, hclB⟩, hPc⟩ := hp
  intro T hT X
  obtain ⟨v, vm₁, ⟨U', l2, c2, s2⟩, hW₁, X', ⟨g', mk, t, L, e1, e2, hq, h1, hL, h2, h3⟩, st⟩ := vx_callVW X hx (C := C) (hh := hh) (bytes := bytes) (maxL := maxL) (ret := ret) ho hl hin hse hcode hy hK (by rw [hT]; exact hcB) hoB hclB hg (hsize.trans hml.symm) (argsL := As) (rest := rest) (fun sig h => hn.trans (hlen sig h)) hstack hW (by rw [hb]; exact hdg)
    (fun vm₁ hW₁ => ⟨hf.1, hf.2, hPc (T.setVm vm₁) hT hW₁⟩)
  dsimp only [Pt.U, Pt.locs, Pt.cells, Pt.slots] at X' e1 e2 h1 h2 h3 st
  subst h1; subst h2; subst h3
  exact ⟨v, (T.setVm vm₁).calling g' mk (Value.ref b :: As).toArray, t, U', L, hT, X', hL, e1, e2, hq, st⟩
section
variable {y : MethodName} {bytes cc : ByteArray} {maxL nL mc ms n index : Nat} {ret : Option FieldType} {ws : List Cond} {rm : Room} {Pc : Array Value → State → Prop} {Qc : Array Value → State → Outcome → State → Prop} {XC : String → State → State → Prop} {free : Addr → Prop} {Ts : List Cond} {own C : String} {b : Addr} {As rest : List Value} {g : JFrame}
theorem vx_runVX {hh : List (Nat × Nat × Nat × Nat)} (S : CallFix p m c cc nL s args Ts own) (hM : vx_Met l y ws rm Pc Qc XC mc ms free) (cw : vx_CVW R s args own C index y bytes maxL ret hh ws rm mc ms n) (hp : PreV s H C b Pc As)
    (hg : g.method = m) (hn : As.length = n) (hsize : g.locals.size = nL) (hstack : g.stack = As.reverse ++ .ref b :: rest) (hW : 2 * g.monitorRoom + (rest.map fun v => v.category).sum ≤ 8) (hdg : decode cc g.pc = .ok (.invokevirtual index, 3)) (hf : cells + mc ≤ R.cells ∧ slots + ms ≤ R.slots) :
    vx_Run p l e R s m args below meth c H locs cells slots mc ms g rest (Qc (Value.ref b :: As).toArray) XC free := by
  obtain ⟨⟨hrc, hrs, hfr, hlo, hws, hcw⟩, hcode, hini, hy, hlen, hl, hin, hse⟩ := cw
  have hK : vx_Back l R p e below s args y 3 8 (PreOf R mc ms Pc) (PostOf Qc mc ms free) (vx_Post XC mc ms free) := vx_backW (hh := hh) (bytes := bytes) (maxL := maxL) (ret := ret) hM hp.1 hrc hrs hfr hlo hws hcw (fun a' U hW => word_at hW (Or.inl (by first | rfl | simp [Cond.onTables, Cond.keeps, Cond.steady])) hini)
  obtain ⟨hx, hb, hml, ho, -⟩ := S
  obtain ⟨-, ⟨cellB, hcB, hoB, hclB⟩, hPc⟩ := hp
  intro T hT X
  rcases vx_callVX X hx (C := C) (hh := hh) (bytes := bytes) (maxL := maxL) (ret := ret) ho hl hin hse hcode hy hK (by rw [hT]; exact hcB) hoB hclB hg (hsize.trans hml.symm) (argsL := As) (rest := rest) (fun sig h => hn.trans (hlen sig h)) hstack hW (by rw [hb]; exact hdg)
    (fun vm₁ hW₁ => ⟨hf.1, hf.2, hPc (T.setVm vm₁) hT hW₁⟩) with ⟨v, vm₁, ⟨U', l2, c2, s2⟩, hW₁, X', ⟨g', mk, t, L, e1, e2, hq, h1, hL, h2, h3⟩, st⟩ | ⟨q, vm₁, ⟨U', l2, c2, s2⟩, hW₁, X', ⟨g', mk, t, L, E, ce, e1, e2, hq, hce, hcv, hcl, h1, hL, h2, h3⟩, st⟩
  · dsimp only [Pt.U, Pt.locs, Pt.cells, Pt.slots] at X' e1 e2 h1 h2 h3 st
    subst h1; subst h2; subst h3
    exact Or.inl ⟨v, (T.setVm vm₁).calling g' mk (Value.ref b :: As).toArray, t, U', L, hT, X', hL, e1, e2, hq, st⟩
  · dsimp only [Pt.U, Pt.locs, Pt.cells, Pt.slots] at X' e1 e2 h1 h2 h3 st hcl
    subst h1; subst h2; subst h3
    exact Or.inr ⟨q, (T.setVm vm₁).calling g' mk (Value.ref b :: As).toArray, t, U', L, E, ce, hT, X', hL, e1, e2, hq, hce, hcv, vx_cls hW₁ hcl, st⟩
theorem vx_runSX {hh : List (Nat × Nat × Nat × Nat)} (S : CallFix p m c cc nL s args Ts own) (hM : vx_Met l y ws rm Pc Qc XC mc ms free) (cw : vx_CSW R s args own index y bytes maxL ret hh ws rm mc ms n) (hp : PreS s H Pc As)
    (hg : g.method = m) (hn : As.length = n) (hsize : g.locals.size = nL) (hstack : g.stack = As.reverse ++ rest) (hW : 2 * g.monitorRoom + (rest.map fun v => v.category).sum ≤ 8) (hdg : decode cc g.pc = .ok (.invokestatic index, 3)) (hf : cells + mc ≤ R.cells ∧ slots + ms ≤ R.slots) :
    vx_Run p l e R s m args below meth c H locs cells slots mc ms g rest (Qc As.toArray) XC free := by
  obtain ⟨⟨hrc, hrs, hfr, hlo, hws, hcw⟩, hcode, hini, hy, hlen, hl, hstt⟩ := cw
  have hK : vx_Back l R p e below s args y 3 8 (PreOf R mc ms Pc) (PostOf Qc mc ms free) (vx_Post XC mc ms free) := vx_backW (hh := hh) (bytes := bytes) (maxL := maxL) (ret := ret) hM hp.1 hrc hrs hfr hlo hws hcw (fun a' U hW => word_at hW (Or.inl (by first | rfl | simp [Cond.onTables, Cond.keeps, Cond.steady])) hini)
  obtain ⟨hx, hb, hml, ho, -⟩ := S
  intro T hT X
  rcases vx_callSX X hx (hh := hh) (bytes := bytes) (maxL := maxL) (ret := ret) ho hl hstt hini hcode hy hK hg (hsize.trans hml.symm) (argsL := As) (rest := rest) (fun sig h => hn.trans (hlen sig h)) hstack hW (by rw [hb]; exact hdg)
    (fun vm₁ hW₁ => ⟨hf.1, hf.2, hp.2 (T.setVm vm₁) hT hW₁⟩) with ⟨v, vm₁, ⟨U', l2, c2, s2⟩, hW₁, X', ⟨g', mk, t, L, e1, e2, hq, h1, hL, h2, h3⟩, st⟩ | ⟨q, vm₁, ⟨U', l2, c2, s2⟩, hW₁, X', ⟨g', mk, t, L, E, ce, e1, e2, hq, hce, hcv, hcl, h1, hL, h2, h3⟩, st⟩
  · dsimp only [Pt.U, Pt.locs, Pt.cells, Pt.slots] at X' e1 e2 h1 h2 h3 st
    subst h1; subst h2; subst h3
    exact Or.inl ⟨v, (T.setVm vm₁).calling g' mk As.toArray, t, U', L, hT, X', hL, e1, e2, hq, st⟩
  · dsimp only [Pt.U, Pt.locs, Pt.cells, Pt.slots] at X' e1 e2 h1 h2 h3 st hcl
    subst h1; subst h2; subst h3
    exact Or.inr ⟨q, (T.setVm vm₁).calling g' mk As.toArray, t, U', L, E, ce, hT, X', hL, e1, e2, hq, hce, hcv, vx_cls hW₁ hcl, st⟩
end
end VXH
theorem vx_ofWH {l : Launch} {y : MethodName} {ws ws' : List Cond} {rm : Room} {Pc : Array Value → State → Prop} {Qc : Array Value → State → Outcome → State → Prop} {XC : String → State → State → Prop} {mc ms : Nat} {free : Addr → Prop} {cc : ByteArray} {maxL : Nat} {ret : Option FieldType} {hh : List (Nat × Nat × Nat × Nat)}
    (hy : plainName y.cls = true) (hw : ws = Cond.codeWith y cc maxL ret hh :: ws')
    (body : ∀ p e s m args below meth c s₁, BodyLoose p l y (headSpec ws rm) cc maxL ret e s m args below meth c s₁ → c.maxLocals = maxL → Pc args s →
      W p l e (headSpec ws rm).room s m args below meth c s.heap [] 0 0 (vx_MQ below Qc XC args s mc ms free) (entryFrame m args maxL)) : vx_Met l y ws rm Pc Qc XC mc ms free := by
  refine MetFree.of_bodyS (code := cc) (maxLocals := maxL) (ret := ret) hy ?_ ?_
  · intro args s m h hn
    obtain ⟨m9, meth, c, hn9, h1, h2, h3, h4, -, h5, h6, -⟩ := Cond.codeWith_spec (atoms_spec (ws := ws) h _ (by rw [hw]; exact List.mem_cons_self))
    cases hn.symm.trans hn9
    exact ⟨meth, c, h1, h2, h3, h4, h5, h6⟩
  · intro p e s m args below meth c s₁ B hml hP _
    have hh0 : s₁.heap = s.heap := by rw [B.state]; rfl
    obtain ⟨t, a1, o, b1, b2, b3⟩ := body p e s m args below meth c s₁ B hml hP s₁ hh0 (Stand.of_body B)
    exact ⟨t, o, a1, b1, b2, b3⟩
/-! ===== END ===== -/
end
section
-- ===== 02.base: the world as a partial function from addresses to cells =====
abbrev x_F : Type := Nat → Option va_E
def x_up (f : x_F) (a : Nat) (e : va_E) : x_F := fun q => if q = a then some e else f q
theorem x_up_s (f : x_F) (a : Nat) (e : va_E) : x_up f a e a = some e := by simp [x_up]
theorem x_up_n {f : x_F} {a q : Nat} {e : va_E} (h : q ≠ a) : x_up f a e q = f q := by simp [x_up, h]
theorem x_up_uu (f : x_F) (a : Nat) (e e' : va_E) : x_up (x_up f a e) a e' = x_up f a e' := by
  funext q; by_cases h : q = a <;> simp [x_up, h]
/-- H holds f; all of f lies from N on; below N the heap is B -/
def x_W (D : va_G) (cl : List vw_C) (N : Nat) (B : Heap) (f : x_F) (H : Heap) : Prop :=
  (∀ (a : Nat) (e : va_E), f a = some e → va_at D cl (a, e) H ∧ N ≤ a) ∧ N ≤ H.size ∧ ∀ q : Nat, q < N → H[q]? = B[q]?
def x_S (N : Nat) (locs : List Loc) : Prop := ∀ q ∈ locs, N ≤ q.base
theorem x_S_0 {N : Nat} : x_S N [] := fun _ h => by cases h
theorem x_S_add {N a k : Nat} {locs : List Loc} (h : x_S N locs) (ha : N ≤ a) : x_S N (locs ++ [⟨a, k⟩]) := fun q hq => by
  rcases List.mem_append.mp hq with h1 | h1
  · exact h q h1
  · rw [List.mem_singleton.mp h1]; exact ha
theorem x_S_app {N : Nat} {locs L : List Loc} (h : x_S N locs) (h' : x_S N L) : x_S N (locs ++ L) := fun q hq => by
  rcases List.mem_append.mp hq with h1 | h1
  · exact h q h1
  · exact h' q h1
theorem x_W.one {D : va_G} {cl : List vw_C} {N : Nat} {B : Heap} {f : x_F} {H : Heap} (h : x_W D cl N B f H) {a : Nat} {e : va_E} (ha : f a = some e) : va_P D cl [(a, e)] H := by
  intro k q hk
  have hz : k < 1 := (List.getElem?_eq_some_iff.mp hk).1
  rw [show k = 0 by omega] at hk
  cases hk
  exact (h.1 a e ha).1
theorem x_W.lt {D : va_G} {cl : List vw_C} {N : Nat} {B : Heap} {f : x_F} {H : Heap} (h : x_W D cl N B f H) {a : Nat} {e : va_E} (ha : f a = some e) : a < H.size := (h.1 a e ha).1.lt
theorem x_W.fresh {D : va_G} {cl : List vw_C} {N : Nat} {B : Heap} {f : x_F} {H : Heap} (h : x_W D cl N B f H) : f H.size = none := by
  cases hf : f H.size with
  | none => rfl
  | some e => exact absurd (h.lt hf) (Nat.lt_irrefl _)
theorem x_W.put {D : va_G} {cl : List vw_C} {N : Nat} {B : Heap} {f : x_F} {H H1 : Heap} (h : x_W D cl N B f H) {a : Nat} {e0 e : va_E} (ha : f a = some e0) (he : va_at D cl (a, e) H1) (hz : H1.size = H.size) (ho : ∀ q : Nat, q ≠ a → H1[q]? = H[q]?) : x_W D cl N B (x_up f a e) H1 := by
  have hN := (h.1 a e0 ha).2
  refine ⟨fun q e' hq => ?_, by rw [hz]; exact h.2.1, fun q hq => ?_⟩
  · by_cases hqa : q = a
    · subst hqa
      rw [x_up_s] at hq
      cases hq
      exact ⟨he, hN⟩
    · rw [x_up_n hqa] at hq
      exact ⟨(h.1 q e' hq).1.kept (ho q hqa), (h.1 q e' hq).2⟩
  · rw [ho q (by omega)]
    exact h.2.2 q hq
theorem x_W.new {D : va_G} {cl : List vw_C} {N : Nat} {B : Heap} {f : x_F} {H H1 : Heap} (h : x_W D cl N B f H) {e : va_E} (he : va_at D cl (H.size, e) H1) (hz : H1.size = H.size + 1) (ho : ∀ q : Nat, q < H.size → H1[q]? = H[q]?) : x_W D cl N B (x_up f H.size e) H1 := by
  refine ⟨fun q e' hq => ?_, by rw [hz]; exact Nat.le_succ_of_le h.2.1, fun q hq => ?_⟩
  · by_cases hqa : q = H.size
    · subst hqa
      rw [x_up_s] at hq
      cases hq
      exact ⟨he, h.2.1⟩
    · rw [x_up_n hqa] at hq
      exact ⟨(h.1 q e' hq).1.kept (ho q (h.lt hq)), (h.1 q e' hq).2⟩
  · rw [ho q (Nat.lt_of_lt_of_le hq h.2.1)]
    exact h.2.2 q hq
/-- fewer cells -/
theorem x_W.less {D : va_G} {cl : List vw_C} {N : Nat} {B : Heap} {f g : x_F} {H : Heap} (h : x_W D cl N B f H) (hg : ∀ a e, g a = some e → f a = some e) : x_W D cl N B g H := ⟨fun a e ha => h.1 a e (hg a e ha), h.2⟩
section XR
variable {p : Program} {l : Launch} {e : Env} {R : Room} {s : State} {m : MethodId} {args : Array Value} {below : List Frame} {meth : Method} {c : Code} {H : Heap} {locs : List Loc} {cells slots : Nat} {Q : State → Prop}
variable {cc : ByteArray} {pc : Nat} {ls : Array Slot} {rest : List Value} {D : va_G} {cl : List vw_C} {N : Nat} {B : Heap} {f : x_F} {a : Nat} {tys : List (ClassId × FieldType)}
theorem x_get (hexec : p.tables.exec = Jvm.exec) (hb : c.code = cc) {own ref C : String} {T : u_T} {n ci index : Nat} {Ts : List Cond} (hts : ∀ w ∈ Ts, w.before args s = true) (hin : ∀ w ∈ u_ws C T n, w ∈ Ts) (hown : s.vm.findClass own = some m.cls) (hK : va_K D cl tys s) (hW : x_W D cl N B f H) {fs : List Value} (he : f a = some (.inr (ci, fs))) (hc : cl[ci]? = some (C, T, n)) (k : Nat) (hk : k < n) (hlink : (Cond.fieldLink own index ref (T k).2.1 (T k).2.2.1).before args s = true) (hsame : ∀ x, s.fieldFound? (T k).1 (T k).2.1 (T k).2.2.1 = some x → s.fieldFound? ref (T k).2.1 (T k).2.2.1 = some x) {v : Value} (hv : fs[k]? = some v) (hdg : decode cc pc = .ok (.getfield index, 3))
    (kk : W p l e R s m args below meth c H locs cells slots Q (F0 m (pc + 3) ls (v :: rest))) : W p l e R s m args below meth c H locs cells slots Q (F0 m pc ls (.ref a :: rest)) :=
  va_get hexec hb hts hin hown hK (hW.one he) 0 rfl hc k hk hlink hsame hv hdg kk
theorem x_put (hexec : p.tables.exec = Jvm.exec) (hb : c.code = cc) {own ref C : String} {T : u_T} {n ci index : Nat} {Ts : List Cond} (hts : ∀ w ∈ Ts, w.before args s = true) (hin : ∀ w ∈ u_ws C T n, w ∈ Ts) (ty0 : Nat → FieldType) (hty : ∀ k, k < n → parseFieldDescriptor (T k).2.2.1 = some (ty0 k)) (hnm : ∀ a, a < n → ∀ b, b < n → a ≠ b → (T a).2.1 ≠ (T b).2.1) (hown : s.vm.findClass own = some m.cls) (hK : va_K D cl tys s) (hW : x_W D cl N B f H) (hS : x_S N locs) {fs : List Value} (he : f a = some (.inr (ci, fs))) (hc : cl[ci]? = some (C, T, n)) (k : Nat) (hk : k < n) (hlink : (Cond.fieldLink own index ref (T k).2.1 (T k).2.2.1).before args s = true) (hsame : ∀ x, s.fieldFound? (T k).1 (T k).2.1 (T k).2.2.1 = some x → s.fieldFound? ref (T k).2.1 (T k).2.2.1 = some x) (hfin : (T k).2.2.2 = false) {ty : FieldType} {v : Value} (hd : parseFieldDescriptor (T k).2.2.1 = some ty) (hn : narrow ty v = v) (hfit : fits ty v = true) (hl : k < fs.length)
    (hdg : decode cc pc = .ok (.putfield index, 3)) (kk : ∀ (H1 : Heap) (locs1 : List Loc), x_W D cl N B (x_up f a (.inr (ci, fs.set k v))) H1 → x_S N locs1 → H1.size = H.size → W p l e R s m args below meth c H1 locs1 cells slots Q (F0 m (pc + 3) ls rest)) : W p l e R s m args below meth c H locs cells slots Q (F0 m pc ls (v :: .ref a :: rest)) := by
  have hap := va_apart (own := own) hts hin ty0 hty hnm hK hc
  obtain ⟨⟨r, h1, cell, q1, q2, q3, q4⟩, hNa⟩ := hW.1 a _ he
  have hr : r = (C, T, n) := Option.some.inj (h1.symm.trans hc)
  subst hr
  obtain ⟨hSl, hfc, kC, hkC, hkind⟩ := hK.1 ci _ hc
  obtain ⟨cf, kf, fi, fd, hi, hsl⟩ := hSl k hk
  have hlay := hts _ (hin _ (u_in_lay hk))
  unfold u_lay at hlay
  rw [if_neg (by rw [hfin]; decide)] at hlay
  have hst := (u_facts hfc hkC (u_lays hts hin hk) hi).1
  have h6 := u_store hfc hkC hkind hlay hi hd hn hfit
  refine W.putK hexec hb (f := fd) ⟨hown, hlink, ⟨_, _, _, hsame _ hi⟩, hst⟩ (by rw [q2]; exact h6) q1 q3 (by rw [hsl]; exact k2_hasslot (q4 k hk)) rfl rfl hdg fun H' e1 e2 e3 => ?_
  rw [hsl] at e1 ⊢
  exact kk H' _ (hW.put he ⟨_, hc, t_OB.to (V := updV (vp_V fs) k v) ⟨_, e1, q2, q3, t_set q4 hap hk v⟩ (fun j _ => vp_updV_set hl v j)⟩ e2 e3) (x_S_add hS hNa) e2
theorem x_putF (hexec : p.tables.exec = Jvm.exec) (hb : c.code = cc) {own ref C : String} {T : u_T} {n ci index : Nat} {Ts : List Cond} (hts : ∀ w ∈ Ts, w.before args s = true) (hin : ∀ w ∈ u_ws C T n, w ∈ Ts) (ty0 : Nat → FieldType) (hty : ∀ k, k < n → parseFieldDescriptor (T k).2.2.1 = some (ty0 k)) (hnm : ∀ a, a < n → ∀ b, b < n → a ≠ b → (T a).2.1 ≠ (T b).2.1) (hown : s.vm.findClass own = some m.cls) (hK : va_K D cl tys s) (hW : x_W D cl N B f H) (hS : x_S N locs) {fs : List Value} (he : f a = some (.inr (ci, fs))) (hc : cl[ci]? = some (C, T, n)) (k : Nat) (hk : k < n) (hlink : (Cond.fieldLink own index ref (T k).2.1 (T k).2.2.1).before args s = true) (hsame : ∀ x, s.fieldFound? (T k).1 (T k).2.1 (T k).2.2.1 = some x → s.fieldFound? ref (T k).2.1 (T k).2.2.1 = some x) (hfin : (T k).2.2.2 = true) (hin2 : meth.name = "<init>") (hdecl : (T k).1 = own) {ty : FieldType} {v : Value} (hd : parseFieldDescriptor (T k).2.2.1 = some ty) (hn : narrow ty v = v) (hfit : fits ty v = true) (hl : k < fs.length)
    (hdg : decode cc pc = .ok (.putfield index, 3)) (kk : ∀ (H1 : Heap) (locs1 : List Loc), x_W D cl N B (x_up f a (.inr (ci, fs.set k v))) H1 → x_S N locs1 → H1.size = H.size → W p l e R s m args below meth c H1 locs1 cells slots Q (F0 m (pc + 3) ls rest)) : W p l e R s m args below meth c H locs cells slots Q (F0 m pc ls (v :: .ref a :: rest)) := by
  have hap := va_apart (own := own) hts hin ty0 hty hnm hK hc
  obtain ⟨⟨r, h1, cell, q1, q2, q3, q4⟩, hNa⟩ := hW.1 a _ he
  have hr : r = (C, T, n) := Option.some.inj (h1.symm.trans hc)
  subst hr
  obtain ⟨hSl, hfc, kC, hkC, hkind⟩ := hK.1 ci _ hc
  obtain ⟨cf, kf, fi, fd, hi, hsl⟩ := hSl k hk
  have hlay := hts _ (hin _ (u_in_lay hk))
  unfold u_lay at hlay
  rw [if_pos hfin] at hlay
  have hst := (u_facts hfc hkC (u_lays hts hin hk) hi).1
  have hcf : m.cls = cf := by
    obtain ⟨_, _, c', _, _, _, -, -, hf', -, -, -, hown2, -⟩ := Cond.laysFinal_spec hlay
    have e1 : c' = cf := by have := hi.symm.trans hf'; simp at this; exact this.1.symm
    rw [hdecl] at hown2
    rw [← e1]; exact Option.some.inj (hown.symm.trans hown2)
  have h6 := u_fits hfc hkC hkind (Or.inr hlay) hi hd hn hfit
  refine W.putFinK hexec hb hown hlink (hsame _ hi) hst hcf hin2 (by rw [q2]; exact h6) q1 q3 (by rw [hsl]; exact k2_hasslot (q4 k hk)) rfl rfl hdg fun H' e1 e2 e3 => ?_
  rw [hsl] at e1 ⊢
  exact kk H' _ (hW.put he ⟨_, hc, t_OB.to (V := updV (vp_V fs) k v) ⟨_, e1, q2, q3, t_set q4 hap hk v⟩ (fun j _ => vp_updV_set hl v j)⟩ e2 e3) (x_S_add hS hNa) e2
theorem x_new (hexec : p.tables.exec = Jvm.exec) (hb : c.code = cc) {own C : String} {T : u_T} {n ci index : Nat} {Ts : List Cond} (hts : ∀ w ∈ Ts, w.before args s = true) (hin : ∀ w ∈ u_ws C T n, w ∈ Ts) (ty : Nat → FieldType) (hty : ∀ k, k < n → parseFieldDescriptor (T k).2.2.1 = some (ty k)) (hown : s.vm.findClass own = some m.cls) (hcl : (Cond.classLink own index C).before args s = true) (hinst : (Cond.instantiable C n).before args s = true) (hini : (Cond.initialized C).before args s = true)
    (hK : va_K D cl tys s) (hW : x_W D cl N B f H) (hc : cl[ci]? = some (C, T, n)) {fs : List Value} (hfs : ∀ j, j < n → defaultValue (ty j) = vp_V fs j) (hcells : cells + 1 ≤ R.cells) (hslots : slots + n ≤ R.slots) (hdg : decode cc pc = .ok (.new index, 3))
    (kk : ∀ (q : Nat) (H1 : Heap), q = H.size → x_W D cl N B (x_up f q (.inr (ci, fs))) H1 → f q = none → H1.size = q + 1 → W p l e R s m args below meth c H1 locs (cells + 1) (slots + n) Q (F0 m (pc + 3) ls (.ref q :: rest))) : W p l e R s m args below meth c H locs cells slots Q (F0 m pc ls rest) := by
  have hKn := hK.1 ci _ hc
  refine W.newcK hexec hb hown hcl hinst hini rfl hdg hcells hslots hKn.2.1 rfl fun H1 kC hkC e1 z1 o1 => ?_
  exact kk H.size H1 rfl (hW.new ⟨_, hc, (u_born ty hts hin hKn hkC e1 hty).to hfs⟩ z1 o1) hW.fresh z1
theorem x_iald (hexec : p.tables.exec = Jvm.exec) (hb : c.code = cc) (hK : va_K D cl tys s) (hW : x_W D cl N B f H) (t0 : Nat) {cA : ClassId} {n : Nat} {z : Nat → Int32} (ha : f a = some (.inl (cA, n, .inl z))) (ht : tys[t0]? = some (cA, .int)) {i : Int32} (hin : vp_in i n) (hdg : decode cc pc = .ok (.iaload, 1))
    (kk : W p l e R s m args below meth c H locs cells slots Q (F0 m (pc + 1) ls (.int (z i.toNatClampNeg) :: rest))) : W p l e R s m args below meth c H locs cells slots Q (F0 m pc ls (.int i :: .ref a :: rest)) := va_iald hexec hb hK (hW.one ha) 0 t0 rfl ht hin hdg kk
theorem x_cald (hexec : p.tables.exec = Jvm.exec) (hb : c.code = cc) (hK : va_K D cl tys s) (hW : x_W D cl N B f H) (t0 : Nat) {cA : ClassId} {n : Nat} {z : Nat → Int32} (ha : f a = some (.inl (cA, n, .inl z))) (ht : tys[t0]? = some (cA, .char)) {i : Int32} (hin : vp_in i n) (hdg : decode cc pc = .ok (.caload, 1))
    (kk : W p l e R s m args below meth c H locs cells slots Q (F0 m (pc + 1) ls (.int (z i.toNatClampNeg) :: rest))) : W p l e R s m args below meth c H locs cells slots Q (F0 m pc ls (.int i :: .ref a :: rest)) := va_cald hexec hb hK (hW.one ha) 0 t0 rfl ht hin hdg kk
theorem x_lald (hexec : p.tables.exec = Jvm.exec) (hb : c.code = cc) (hK : va_K D cl tys s) (hW : x_W D cl N B f H) (t0 : Nat) {cA : ClassId} {n : Nat} {z : Nat → Int64} (ha : f a = some (.inl (cA, n, .inr (.inl z)))) (ht : tys[t0]? = some (cA, .long)) {i : Int32} (hin : vp_in i n) (hdg : decode cc pc = .ok (.laload, 1))
    (kk : W p l e R s m args below meth c H locs cells slots Q (F0 m (pc + 1) ls (.long (z i.toNatClampNeg) :: rest))) : W p l e R s m args below meth c H locs cells slots Q (F0 m pc ls (.int i :: .ref a :: rest)) := va_lald hexec hb hK (hW.one ha) 0 t0 rfl ht hin hdg kk
theorem x_aldq (hexec : p.tables.exec = Jvm.exec) (hb : c.code = cc) (hK : va_K D cl tys s) (hW : x_W D cl N B f H) (t0 : Nat) {cA : ClassId} {C : String} {n : Nat} {z : Nat → Option Nat} (ha : f a = some (.inl (cA, n, .inr (.inr (.inr (.inr z)))))) (ht : tys[t0]? = some (cA, .object C)) {i : Int32} (hin : vp_in i n) (hdg : decode cc pc = .ok (.aaload, 1))
    (kk : W p l e R s m args below meth c H locs cells slots Q (F0 m (pc + 1) ls (va_rf (z i.toNatClampNeg) :: rest))) : W p l e R s m args below meth c H locs cells slots Q (F0 m pc ls (.int i :: .ref a :: rest)) := va_aldq hexec hb hK (hW.one ha) 0 t0 rfl ht hin hdg kk
theorem x_alen (hexec : p.tables.exec = Jvm.exec) (hb : c.code = cc) (hK : va_K D cl tys s) (hW : x_W D cl N B f H) (t0 : Nat) {cA : ClassId} {x : vp_A} (ha : f a = some (.inl (cA, x))) {ty : FieldType} (ht : tys[t0]? = some (cA, ty)) {v : Int32} (hv : Int32.ofNat x.1 = v) (hdg : decode cc pc = .ok (.arraylength, 1))
    (kk : W p l e R s m args below meth c H locs cells slots Q (F0 m (pc + 1) ls (.int v :: rest))) : W p l e R s m args below meth c H locs cells slots Q (F0 m pc ls (.ref a :: rest)) := va_alen hexec hb hK (hW.one ha) 0 t0 rfl ht hv hdg kk
theorem x_iast (hexec : p.tables.exec = Jvm.exec) (hb : c.code = cc) (hK : va_K D cl tys s) (hW : x_W D cl N B f H) (hS : x_S N locs) (t0 : Nat) {cA : ClassId} {n : Nat} {z : Nat → Int32} (ha : f a = some (.inl (cA, n, .inl z))) (ht : tys[t0]? = some (cA, .int)) {i : Int32} {x : Int32} (hin : vp_in i n) (hdg : decode cc pc = .ok (.iastore, 1))
    (kk : ∀ (H1 : Heap) (locs1 : List Loc), x_W D cl N B (x_up f a (.inl (cA, n, .inl (upd z i.toNatClampNeg x)))) H1 → x_S N locs1 → H1.size = H.size → W p l e R s m args below meth c H1 locs1 cells slots Q (F0 m (pc + 1) ls rest)) : W p l e R s m args below meth c H locs cells slots Q (F0 m pc ls (.int x :: .int i :: .ref a :: rest)) := by
  obtain ⟨hcell, hNa⟩ := hW.1 a _ ha
  refine W.iast hexec hb hcell ((hK.2 t0 _ ht).1 n (fun j => .int (z j))) (fun q => by cases q) (by show ¬ (i < 0 ∨ (arrV _ _ _).slots.size ≤ _); rw [arrV_size]; exact hin) rfl rfl hdg fun H1 e2 zz oq => ?_
  refine kk H1 _ (hW.put ha ?_ zz oq) (x_S_add hS hNa) zz
  show H1[a]? = some (vp_cell _ _)
  rw [e2, vp_cell_i, vp_cell_i, arrV_store]
  congr 2
  funext q
  by_cases hq : q = i.toNatClampNeg
  · subst hq; simp [updV, upd]
  · simp [updV, upd, hq]
theorem x_cast (hexec : p.tables.exec = Jvm.exec) (hb : c.code = cc) (hK : va_K D cl tys s) (hW : x_W D cl N B f H) (hS : x_S N locs) (t0 : Nat) {cA : ClassId} {n : Nat} {z : Nat → Int32} (ha : f a = some (.inl (cA, n, .inl z))) (ht : tys[t0]? = some (cA, .char)) {i : Int32} {x : Int32} (hin : vp_in i n) (hdg : decode cc pc = .ok (.castore, 1))
    (kk : ∀ (H1 : Heap) (locs1 : List Loc), x_W D cl N B (x_up f a (.inl (cA, n, .inl (upd z i.toNatClampNeg (vp_nar .char x))))) H1 → x_S N locs1 → H1.size = H.size → W p l e R s m args below meth c H1 locs1 cells slots Q (F0 m (pc + 1) ls rest)) : W p l e R s m args below meth c H locs cells slots Q (F0 m pc ls (.int x :: .int i :: .ref a :: rest)) := by
  obtain ⟨hcell, hNa⟩ := hW.1 a _ ha
  refine W.cast hexec hb hcell ((hK.2 t0 _ ht).1 n (fun j => .int (z j))) (fun q => by cases q) (by show ¬ (i < 0 ∨ (arrV _ _ _).slots.size ≤ _); rw [arrV_size]; exact hin) rfl rfl hdg fun H1 e2 zz oq => ?_
  refine kk H1 _ (hW.put ha ?_ zz oq) (x_S_add hS hNa) zz
  show H1[a]? = some (vp_cell _ _)
  rw [e2, vp_cell_i, vp_cell_i, arrV_store]
  congr 2
  funext q
  by_cases hq : q = i.toNatClampNeg
  · subst hq
    simp [updV, upd, vp_nar]
    try rfl
  · simp [updV, upd, hq]
theorem x_last (hexec : p.tables.exec = Jvm.exec) (hb : c.code = cc) (hK : va_K D cl tys s) (hW : x_W D cl N B f H) (hS : x_S N locs) (t0 : Nat) {cA : ClassId} {n : Nat} {z : Nat → Int64} (ha : f a = some (.inl (cA, n, .inr (.inl z)))) (ht : tys[t0]? = some (cA, .long)) {i : Int32} {x : Int64} (hin : vp_in i n) (hdg : decode cc pc = .ok (.lastore, 1))
    (kk : ∀ (H1 : Heap) (locs1 : List Loc), x_W D cl N B (x_up f a (.inl (cA, n, .inr (.inl (vp_updL z i.toNatClampNeg x))))) H1 → x_S N locs1 → H1.size = H.size → W p l e R s m args below meth c H1 locs1 cells slots Q (F0 m (pc + 1) ls rest)) : W p l e R s m args below meth c H locs cells slots Q (F0 m pc ls (.long x :: .int i :: .ref a :: rest)) := by
  obtain ⟨hcell, hNa⟩ := hW.1 a _ ha
  refine W.last hexec hb hcell ((hK.2 t0 _ ht).1 n (fun j => .long (z j))) (fun q => by cases q) (by show ¬ (i < 0 ∨ (arrV _ _ _).slots.size ≤ _); rw [arrV_size]; exact hin) rfl rfl hdg fun H1 e2 zz oq => ?_
  refine kk H1 _ (hW.put ha ?_ zz oq) (x_S_add hS hNa) zz
  show H1[a]? = some (vp_cell _ _)
  rw [e2, vp_cell_l, vp_cell_l, arrV_store]
  congr 2
  funext q
  by_cases hq : q = i.toNatClampNeg
  · subst hq; simp [updV, vp_updL]
  · simp [updV, vp_updL, hq]
end XR
end
section
-- ===== 04.words: one list of words for every method; what the tables say beside it =====
def x_T : List Cond := lw_tbl.filter goodWord
theorem x_T_good : ∀ w ∈ x_T, goodWord w = true := fun _ h => (List.mem_filter.mp h).2
theorem x_T_in : ∀ w ∈ x_T, w ∈ lw_tbl := fun _ h => (List.mem_filter.mp h).1
/-- the word at place i of tables_1 -/
theorem x_at {w : Cond} (i : Nat) (h : tables_1[i]? = some w) (g : goodWord w = true) : w ∈ x_T := List.mem_filter.mpr ⟨List.mem_append_right _ (List.mem_of_getElem? h), g⟩
/-- .. and of the private methods' list -/
theorem x_sel {q : MethodName × Nat} (i : Nat) (h : lw_privs[i]? = some q) (g : goodWord (Cond.selects q.1.cls q.1 q.1) = true) : Cond.selects q.1.cls q.1 q.1 ∈ x_T := List.mem_filter.mpr ⟨List.mem_append_left _ (List.mem_map.mpr ⟨q, List.mem_of_getElem? h, rfl⟩), g⟩
theorem x_good {c2 : Cond} (h : c2 ∈ x_T) : GoodIn x_T (c2 :: x_T) := fun w hw => by
  have hm : w ∈ x_T := (List.mem_cons.mp hw).elim (fun e => by rw [e]; exact h) id
  exact ⟨hm, good_of_word (x_T_good w hm)⟩
/-- the words that are no good ones, but stay under warmer tables -/
def x_nk : Cond → Bool
  | .fieldLinkNest .. => true
  | .methodLinkNest .. => true
  | .declares _ => true
  | .castable .. => true
  | _ => false
def x_nest : List Cond := tables_1.filter x_nk
theorem x_nest_at {w : Cond} (i : Nat) (h : tables_1[i]? = some w) (g : x_nk w = true) : w ∈ x_nest := List.mem_filter.mpr ⟨List.mem_of_getElem? h, g⟩
theorem x_nk_warm {w : Cond} {s U : State} (g : x_nk w = true) (hW : s.WarmedH U.vm) (h : va_Nw w s) : va_Nw w U := by
  cases w <;> first | exact va_Nw.warmF hW h | exact va_Nw.warmM hW h | exact va_Nw.warmD hW h | exact va_Nw.warmC hW h | cases g
theorem x_nk_same {w : Cond} {s U : State} (g : x_nk w = true) (hW : s.vm = U.vm) (h : va_Nw w s) : va_Nw w U := by
  cases w <;> first | exact va_Nw.same rfl hW h | cases g
/-- the arrays' classes -/
def x_tys (ar : Nat → ClassId) : List (ClassId × FieldType) := [(ar 0, .int), (ar 1, .char), (ar 2, .long), (ar 3, .boolean), (ar 4, .object "ChannelMachine$Channel")]
end
section
-- ===== 05.classes: the tables of the classes that have objects, by program =====
theorem k_56 : (Jvm.Cond.laysFinal "ChannelMachine$Reader" "ChannelMachine$Reader" "text" "[C") ∈ x_T := x_at 56 (by decide +kernel) (by decide +kernel)
theorem k_58 : (Jvm.Cond.laysFinal "ChannelMachine$Reader" "ChannelMachine$Reader" "code" "[I") ∈ x_T := x_at 58 (by decide +kernel) (by decide +kernel)
theorem k_60 : (Jvm.Cond.lays "ChannelMachine$Reader" "ChannelMachine$Reader" "length" "I") ∈ x_T := x_at 60 (by decide +kernel) (by decide +kernel)
theorem k_62 : (Jvm.Cond.lays "ChannelMachine$Reader" "ChannelMachine$Reader" "codeLength" "I") ∈ x_T := x_at 62 (by decide +kernel) (by decide +kernel)
theorem k_64 : (Jvm.Cond.lays "ChannelMachine$Reader" "ChannelMachine$Reader" "limit" "I") ∈ x_T := x_at 64 (by decide +kernel) (by decide +kernel)
theorem k_66 : (Jvm.Cond.lays "ChannelMachine$Reader" "ChannelMachine$Reader" "at" "I") ∈ x_T := x_at 66 (by decide +kernel) (by decide +kernel)
theorem k_68 : (Jvm.Cond.lays "ChannelMachine$Reader" "ChannelMachine$Reader" "place" "I") ∈ x_T := x_at 68 (by decide +kernel) (by decide +kernel)
theorem k_70 : (Jvm.Cond.lays "ChannelMachine$Reader" "ChannelMachine$Reader" "processes" "I") ∈ x_T := x_at 70 (by decide +kernel) (by decide +kernel)
theorem k_72 : (Jvm.Cond.lays "ChannelMachine$Reader" "ChannelMachine$Reader" "program" "LChannelMachine$Process;") ∈ x_T := x_at 72 (by decide +kernel) (by decide +kernel)
theorem k_95 : (Jvm.Cond.laysFinal "ChannelMachine$Row" "ChannelMachine$Row" "values" "[I") ∈ x_T := x_at 95 (by decide +kernel) (by decide +kernel)
theorem k_97 : (Jvm.Cond.lays "ChannelMachine$Row" "ChannelMachine$Row" "size" "I") ∈ x_T := x_at 97 (by decide +kernel) (by decide +kernel)
theorem k_119 : (Jvm.Cond.lays "java/util/ArrayList" "java/util/ArrayList" "elementData" "[Ljava/lang/Object;") ∈ x_T := x_at 119 (by decide +kernel) (by decide +kernel)
theorem k_121 : (Jvm.Cond.lays "java/util/ArrayList" "java/util/ArrayList" "size" "I") ∈ x_T := x_at 121 (by decide +kernel) (by decide +kernel)
theorem k_123 : (Jvm.Cond.lays "java/util/ArrayList" "java/util/AbstractList" "modCount" "I") ∈ x_T := x_at 123 (by decide +kernel) (by decide +kernel)
theorem k_141 : (Jvm.Cond.lays "ChannelMachine$Channel" "ChannelMachine$Channel" "sender" "LChannelMachine$Task;") ∈ x_T := x_at 141 (by decide +kernel) (by decide +kernel)
theorem k_143 : (Jvm.Cond.lays "ChannelMachine$Channel" "ChannelMachine$Channel" "receiver" "LChannelMachine$Task;") ∈ x_T := x_at 143 (by decide +kernel) (by decide +kernel)
theorem k_145 : (Jvm.Cond.lays "ChannelMachine$Channel" "ChannelMachine$Channel" "variable" "I") ∈ x_T := x_at 145 (by decide +kernel) (by decide +kernel)
theorem k_147 : (Jvm.Cond.lays "ChannelMachine$Channel" "ChannelMachine$Channel" "follow" "LChannelMachine$Process;") ∈ x_T := x_at 147 (by decide +kernel) (by decide +kernel)
theorem k_171 : (Jvm.Cond.laysFinal "ChannelMachine$Machine" "ChannelMachine$Machine" "variables" "[I") ∈ x_T := x_at 171 (by decide +kernel) (by decide +kernel)
theorem k_173 : (Jvm.Cond.laysFinal "ChannelMachine$Machine" "ChannelMachine$Machine" "channels" "[LChannelMachine$Channel;") ∈ x_T := x_at 173 (by decide +kernel) (by decide +kernel)
theorem k_175 : (Jvm.Cond.laysFinal "ChannelMachine$Machine" "ChannelMachine$Machine" "gifts" "LChannelMachine$Row;") ∈ x_T := x_at 175 (by decide +kernel) (by decide +kernel)
theorem k_177 : (Jvm.Cond.laysFinal "ChannelMachine$Machine" "ChannelMachine$Machine" "box" "LChannelMachine$Row;") ∈ x_T := x_at 177 (by decide +kernel) (by decide +kernel)
theorem k_179 : (Jvm.Cond.laysFinal "ChannelMachine$Machine" "ChannelMachine$Machine" "queue" "Ljava/util/List;") ∈ x_T := x_at 179 (by decide +kernel) (by decide +kernel)
theorem k_181 : (Jvm.Cond.laysFinal "ChannelMachine$Machine" "ChannelMachine$Machine" "sleepers" "Ljava/util/List;") ∈ x_T := x_at 181 (by decide +kernel) (by decide +kernel)
theorem k_183 : (Jvm.Cond.laysFinal "ChannelMachine$Machine" "ChannelMachine$Machine" "stack" "[I") ∈ x_T := x_at 183 (by decide +kernel) (by decide +kernel)
theorem k_185 : (Jvm.Cond.lays "ChannelMachine$Machine" "ChannelMachine$Machine" "state" "I") ∈ x_T := x_at 185 (by decide +kernel) (by decide +kernel)
theorem k_187 : (Jvm.Cond.lays "ChannelMachine$Machine" "ChannelMachine$Machine" "tasks" "I") ∈ x_T := x_at 187 (by decide +kernel) (by decide +kernel)
theorem k_189 : (Jvm.Cond.lays "ChannelMachine$Machine" "ChannelMachine$Machine" "acts" "I") ∈ x_T := x_at 189 (by decide +kernel) (by decide +kernel)
theorem k_191 : (Jvm.Cond.lays "ChannelMachine$Machine" "ChannelMachine$Machine" "time" "J") ∈ x_T := x_at 191 (by decide +kernel) (by decide +kernel)
theorem k_197 : (Jvm.Cond.laysFinal "ChannelMachine" "ChannelMachine" "reader" "LChannelMachine$Reader;") ∈ x_T := x_at 197 (by decide +kernel) (by decide +kernel)
theorem k_199 : (Jvm.Cond.laysFinal "ChannelMachine" "ChannelMachine" "machine" "LChannelMachine$Machine;") ∈ x_T := x_at 199 (by decide +kernel) (by decide +kernel)
theorem k_201 : (Jvm.Cond.lays "ChannelMachine" "ChannelMachine" "place" "I") ∈ x_T := x_at 201 (by decide +kernel) (by decide +kernel)
theorem k_1012 : (Jvm.Cond.laysFinal "ChannelMachineModel" "ChannelMachineModel" "text" "[I") ∈ x_T := x_at 1012 (by decide +kernel) (by decide +kernel)
theorem k_1014 : (Jvm.Cond.laysFinal "ChannelMachineModel" "ChannelMachineModel" "code" "[I") ∈ x_T := x_at 1014 (by decide +kernel) (by decide +kernel)
theorem k_1016 : (Jvm.Cond.laysFinal "ChannelMachineModel" "ChannelMachineModel" "fresh" "[I") ∈ x_T := x_at 1016 (by decide +kernel) (by decide +kernel)
theorem k_1018 : (Jvm.Cond.laysFinal "ChannelMachineModel" "ChannelMachineModel" "variables" "[I") ∈ x_T := x_at 1018 (by decide +kernel) (by decide +kernel)
theorem k_1020 : (Jvm.Cond.lays "ChannelMachineModel" "ChannelMachineModel" "size" "I") ∈ x_T := x_at 1020 (by decide +kernel) (by decide +kernel)
theorem k_1022 : (Jvm.Cond.lays "ChannelMachineModel" "ChannelMachineModel" "place" "I") ∈ x_T := x_at 1022 (by decide +kernel) (by decide +kernel)
theorem k_1024 : (Jvm.Cond.lays "ChannelMachineModel" "ChannelMachineModel" "pos" "I") ∈ x_T := x_at 1024 (by decide +kernel) (by decide +kernel)
theorem k_1026 : (Jvm.Cond.lays "ChannelMachineModel" "ChannelMachineModel" "at" "I") ∈ x_T := x_at 1026 (by decide +kernel) (by decide +kernel)
theorem k_1028 : (Jvm.Cond.lays "ChannelMachineModel" "ChannelMachineModel" "processes" "I") ∈ x_T := x_at 1028 (by decide +kernel) (by decide +kernel)
theorem k_1030 : (Jvm.Cond.lays "ChannelMachineModel" "ChannelMachineModel" "status" "I") ∈ x_T := x_at 1030 (by decide +kernel) (by decide +kernel)
theorem k_1032 : (Jvm.Cond.lays "ChannelMachineModel" "ChannelMachineModel" "operators" "I") ∈ x_T := x_at 1032 (by decide +kernel) (by decide +kernel)
theorem k_1034 : (Jvm.Cond.laysFinal "ChannelMachineModel" "ChannelMachineModel" "kind" "[I") ∈ x_T := x_at 1034 (by decide +kernel) (by decide +kernel)
theorem k_1036 : (Jvm.Cond.laysFinal "ChannelMachineModel" "ChannelMachineModel" "head" "[I") ∈ x_T := x_at 1036 (by decide +kernel) (by decide +kernel)
theorem k_1038 : (Jvm.Cond.laysFinal "ChannelMachineModel" "ChannelMachineModel" "many" "[I") ∈ x_T := x_at 1038 (by decide +kernel) (by decide +kernel)
theorem k_1040 : (Jvm.Cond.laysFinal "ChannelMachineModel" "ChannelMachineModel" "jumps" "[I") ∈ x_T := x_at 1040 (by decide +kernel) (by decide +kernel)
theorem k_1042 : (Jvm.Cond.laysFinal "ChannelMachineModel" "ChannelMachineModel" "operator" "[I") ∈ x_T := x_at 1042 (by decide +kernel) (by decide +kernel)
theorem k_1044 : (Jvm.Cond.laysFinal "ChannelMachineModel" "ChannelMachineModel" "ranks" "[I") ∈ x_T := x_at 1044 (by decide +kernel) (by decide +kernel)
theorem k_1046 : (Jvm.Cond.laysFinal "ChannelMachineModel" "ChannelMachineModel" "starts" "[I") ∈ x_T := x_at 1046 (by decide +kernel) (by decide +kernel)
theorem k_1048 : (Jvm.Cond.lays "ChannelMachineModel" "ChannelMachineModel" "open" "I") ∈ x_T := x_at 1048 (by decide +kernel) (by decide +kernel)
theorem k_1050 : (Jvm.Cond.laysFinal "ChannelMachineModel" "ChannelMachineModel" "compared" "[Z") ∈ x_T := x_at 1050 (by decide +kernel) (by decide +kernel)
theorem k_1052 : (Jvm.Cond.laysFinal "ChannelMachineModel" "ChannelMachineModel" "pc" "[I") ∈ x_T := x_at 1052 (by decide +kernel) (by decide +kernel)
theorem k_1054 : (Jvm.Cond.laysFinal "ChannelMachineModel" "ChannelMachineModel" "parent" "[I") ∈ x_T := x_at 1054 (by decide +kernel) (by decide +kernel)
theorem k_1056 : (Jvm.Cond.laysFinal "ChannelMachineModel" "ChannelMachineModel" "kids" "[I") ∈ x_T := x_at 1056 (by decide +kernel) (by decide +kernel)
theorem k_1058 : (Jvm.Cond.laysFinal "ChannelMachineModel" "ChannelMachineModel" "order" "[I") ∈ x_T := x_at 1058 (by decide +kernel) (by decide +kernel)
theorem k_1060 : (Jvm.Cond.laysFinal "ChannelMachineModel" "ChannelMachineModel" "queue" "[I") ∈ x_T := x_at 1060 (by decide +kernel) (by decide +kernel)
theorem k_1062 : (Jvm.Cond.laysFinal "ChannelMachineModel" "ChannelMachineModel" "pile" "[I") ∈ x_T := x_at 1062 (by decide +kernel) (by decide +kernel)
theorem k_1064 : (Jvm.Cond.laysFinal "ChannelMachineModel" "ChannelMachineModel" "until" "[J") ∈ x_T := x_at 1064 (by decide +kernel) (by decide +kernel)
theorem k_1066 : (Jvm.Cond.laysFinal "ChannelMachineModel" "ChannelMachineModel" "there" "[Z") ∈ x_T := x_at 1066 (by decide +kernel) (by decide +kernel)
theorem k_1068 : (Jvm.Cond.laysFinal "ChannelMachineModel" "ChannelMachineModel" "timed" "[Z") ∈ x_T := x_at 1068 (by decide +kernel) (by decide +kernel)
theorem k_1070 : (Jvm.Cond.lays "ChannelMachineModel" "ChannelMachineModel" "queued" "I") ∈ x_T := x_at 1070 (by decide +kernel) (by decide +kernel)
theorem k_1072 : (Jvm.Cond.lays "ChannelMachineModel" "ChannelMachineModel" "current" "I") ∈ x_T := x_at 1072 (by decide +kernel) (by decide +kernel)
theorem k_1074 : (Jvm.Cond.lays "ChannelMachineModel" "ChannelMachineModel" "stamp" "I") ∈ x_T := x_at 1074 (by decide +kernel) (by decide +kernel)
theorem k_1076 : (Jvm.Cond.lays "ChannelMachineModel" "ChannelMachineModel" "acts" "I") ∈ x_T := x_at 1076 (by decide +kernel) (by decide +kernel)
theorem k_1078 : (Jvm.Cond.lays "ChannelMachineModel" "ChannelMachineModel" "thrown" "I") ∈ x_T := x_at 1078 (by decide +kernel) (by decide +kernel)
theorem k_1080 : (Jvm.Cond.lays "ChannelMachineModel" "ChannelMachineModel" "time" "J") ∈ x_T := x_at 1080 (by decide +kernel) (by decide +kernel)
theorem k_1082 : (Jvm.Cond.laysFinal "ChannelMachineModel" "ChannelMachineModel" "reader" "[I") ∈ x_T := x_at 1082 (by decide +kernel) (by decide +kernel)
theorem k_1084 : (Jvm.Cond.laysFinal "ChannelMachineModel" "ChannelMachineModel" "into" "[I") ∈ x_T := x_at 1084 (by decide +kernel) (by decide +kernel)
theorem k_1086 : (Jvm.Cond.laysFinal "ChannelMachineModel" "ChannelMachineModel" "then" "[I") ∈ x_T := x_at 1086 (by decide +kernel) (by decide +kernel)
theorem k_1088 : (Jvm.Cond.laysFinal "ChannelMachineModel" "ChannelMachineModel" "writer" "[I") ∈ x_T := x_at 1088 (by decide +kernel) (by decide +kernel)
theorem k_1090 : (Jvm.Cond.laysFinal "ChannelMachineModel" "ChannelMachineModel" "offered" "[I") ∈ x_T := x_at 1090 (by decide +kernel) (by decide +kernel)
theorem k_1092 : (Jvm.Cond.laysFinal "ChannelMachineModel" "ChannelMachineModel" "gifts" "[I") ∈ x_T := x_at 1092 (by decide +kernel) (by decide +kernel)
theorem k_1094 : (Jvm.Cond.laysFinal "ChannelMachineModel" "ChannelMachineModel" "box" "[I") ∈ x_T := x_at 1094 (by decide +kernel) (by decide +kernel)
theorem k_1096 : (Jvm.Cond.lays "ChannelMachineModel" "ChannelMachineModel" "given" "I") ∈ x_T := x_at 1096 (by decide +kernel) (by decide +kernel)
theorem k_1098 : (Jvm.Cond.lays "ChannelMachineModel" "ChannelMachineModel" "boxed" "I") ∈ x_T := x_at 1098 (by decide +kernel) (by decide +kernel)
theorem k_1100 : (Jvm.Cond.lays "ChannelMachineModel" "ChannelMachineModel" "end" "I") ∈ x_T := x_at 1100 (by decide +kernel) (by decide +kernel)
def F_List : u_T := fun k => match k with
  | 0 => ("java/util/ArrayList", "elementData", "[Ljava/lang/Object;", false)
  | 1 => ("java/util/ArrayList", "size", "I", false)
  | _ => ("java/util/AbstractList", "modCount", "I", false)
def t_List : Nat → FieldType := fun k => match k with
  | 0 => (.array (.object "java/lang/Object"))
  | 1 => .int
  | _ => .int
theorem n_List : ∀ a, a < 3 → ∀ b, b < 3 → a ≠ b → (F_List a).2.1 ≠ (F_List b).2.1 := by decide +kernel
theorem t_List_ok : ∀ k, k < 3 → parseFieldDescriptor (F_List k).2.2.1 = some (t_List k) := by decide +kernel
theorem i_List : ∀ w ∈ u_ws "java/util/ArrayList" F_List 3, w ∈ x_T := by
  intro w hw
  obtain ⟨k, hk, rfl⟩ := List.mem_map.mp hw
  have hk := List.mem_range.mp hk
  match k, hk with
  | 0, _ => exact k_119
  | 1, _ => exact k_121
  | 2, _ => exact k_123
  | k + 3, h => exact absurd h (by omega)
def F_Channel : u_T := fun k => match k with
  | 0 => ("ChannelMachine$Channel", "sender", "LChannelMachine$Task;", false)
  | 1 => ("ChannelMachine$Channel", "receiver", "LChannelMachine$Task;", false)
  | 2 => ("ChannelMachine$Channel", "variable", "I", false)
  | _ => ("ChannelMachine$Channel", "follow", "LChannelMachine$Process;", false)
def t_Channel : Nat → FieldType := fun k => match k with
  | 0 => (.object "ChannelMachine$Task")
  | 1 => (.object "ChannelMachine$Task")
  | 2 => .int
  | _ => (.object "ChannelMachine$Process")
theorem n_Channel : ∀ a, a < 4 → ∀ b, b < 4 → a ≠ b → (F_Channel a).2.1 ≠ (F_Channel b).2.1 := by decide +kernel
theorem t_Channel_ok : ∀ k, k < 4 → parseFieldDescriptor (F_Channel k).2.2.1 = some (t_Channel k) := by decide +kernel
theorem i_Channel : ∀ w ∈ u_ws "ChannelMachine$Channel" F_Channel 4, w ∈ x_T := by
  intro w hw
  obtain ⟨k, hk, rfl⟩ := List.mem_map.mp hw
  have hk := List.mem_range.mp hk
  match k, hk with
  | 0, _ => exact k_141
  | 1, _ => exact k_143
  | 2, _ => exact k_145
  | 3, _ => exact k_147
  | k + 4, h => exact absurd h (by omega)
def F_Machine : u_T := fun k => match k with
  | 0 => ("ChannelMachine$Machine", "variables", "[I", true)
  | 1 => ("ChannelMachine$Machine", "channels", "[LChannelMachine$Channel;", true)
  | 2 => ("ChannelMachine$Machine", "gifts", "LChannelMachine$Row;", true)
  | 3 => ("ChannelMachine$Machine", "box", "LChannelMachine$Row;", true)
  | 4 => ("ChannelMachine$Machine", "queue", "Ljava/util/List;", true)
  | 5 => ("ChannelMachine$Machine", "sleepers", "Ljava/util/List;", true)
  | 6 => ("ChannelMachine$Machine", "stack", "[I", true)
  | 7 => ("ChannelMachine$Machine", "state", "I", false)
  | 8 => ("ChannelMachine$Machine", "tasks", "I", false)
  | 9 => ("ChannelMachine$Machine", "acts", "I", false)
  | _ => ("ChannelMachine$Machine", "time", "J", false)
def t_Machine : Nat → FieldType := fun k => match k with
  | 0 => (.array .int)
  | 1 => (.array (.object "ChannelMachine$Channel"))
  | 2 => (.object "ChannelMachine$Row")
  | 3 => (.object "ChannelMachine$Row")
  | 4 => (.object "java/util/List")
  | 5 => (.object "java/util/List")
  | 6 => (.array .int)
  | 7 => .int
  | 8 => .int
  | 9 => .int
  | _ => .long
theorem n_Machine : ∀ a, a < 11 → ∀ b, b < 11 → a ≠ b → (F_Machine a).2.1 ≠ (F_Machine b).2.1 := by decide +kernel
theorem t_Machine_ok : ∀ k, k < 11 → parseFieldDescriptor (F_Machine k).2.2.1 = some (t_Machine k) := by decide +kernel
theorem i_Machine : ∀ w ∈ u_ws "ChannelMachine$Machine" F_Machine 11, w ∈ x_T := by
  intro w hw
  obtain ⟨k, hk, rfl⟩ := List.mem_map.mp hw
  have hk := List.mem_range.mp hk
  match k, hk with
  | 0, _ => exact k_171
  | 1, _ => exact k_173
  | 2, _ => exact k_175
  | 3, _ => exact k_177
  | 4, _ => exact k_179
  | 5, _ => exact k_181
  | 6, _ => exact k_183
  | 7, _ => exact k_185
  | 8, _ => exact k_187
  | 9, _ => exact k_189
  | 10, _ => exact k_191
  | k + 11, h => exact absurd h (by omega)
def F_Reader : u_T := fun k => match k with
  | 0 => ("ChannelMachine$Reader", "text", "[C", true)
  | 1 => ("ChannelMachine$Reader", "code", "[I", true)
  | 2 => ("ChannelMachine$Reader", "length", "I", false)
  | 3 => ("ChannelMachine$Reader", "codeLength", "I", false)
  | 4 => ("ChannelMachine$Reader", "limit", "I", false)
  | 5 => ("ChannelMachine$Reader", "at", "I", false)
  | 6 => ("ChannelMachine$Reader", "place", "I", false)
  | 7 => ("ChannelMachine$Reader", "processes", "I", false)
  | _ => ("ChannelMachine$Reader", "program", "LChannelMachine$Process;", false)
def t_Reader : Nat → FieldType := fun k => match k with
  | 0 => (.array .char)
  | 1 => (.array .int)
  | 2 => .int
  | 3 => .int
  | 4 => .int
  | 5 => .int
  | 6 => .int
  | 7 => .int
  | _ => (.object "ChannelMachine$Process")
theorem n_Reader : ∀ a, a < 9 → ∀ b, b < 9 → a ≠ b → (F_Reader a).2.1 ≠ (F_Reader b).2.1 := by decide +kernel
theorem t_Reader_ok : ∀ k, k < 9 → parseFieldDescriptor (F_Reader k).2.2.1 = some (t_Reader k) := by decide +kernel
theorem i_Reader : ∀ w ∈ u_ws "ChannelMachine$Reader" F_Reader 9, w ∈ x_T := by
  intro w hw
  obtain ⟨k, hk, rfl⟩ := List.mem_map.mp hw
  have hk := List.mem_range.mp hk
  match k, hk with
  | 0, _ => exact k_56
  | 1, _ => exact k_58
  | 2, _ => exact k_60
  | 3, _ => exact k_62
  | 4, _ => exact k_64
  | 5, _ => exact k_66
  | 6, _ => exact k_68
  | 7, _ => exact k_70
  | 8, _ => exact k_72
  | k + 9, h => exact absurd h (by omega)
def F_Row : u_T := fun k => match k with
  | 0 => ("ChannelMachine$Row", "values", "[I", true)
  | _ => ("ChannelMachine$Row", "size", "I", false)
def t_Row : Nat → FieldType := fun k => match k with
  | 0 => (.array .int)
  | _ => .int
theorem n_Row : ∀ a, a < 2 → ∀ b, b < 2 → a ≠ b → (F_Row a).2.1 ≠ (F_Row b).2.1 := by decide +kernel
theorem t_Row_ok : ∀ k, k < 2 → parseFieldDescriptor (F_Row k).2.2.1 = some (t_Row k) := by decide +kernel
theorem i_Row : ∀ w ∈ u_ws "ChannelMachine$Row" F_Row 2, w ∈ x_T := by
  intro w hw
  obtain ⟨k, hk, rfl⟩ := List.mem_map.mp hw
  have hk := List.mem_range.mp hk
  match k, hk with
  | 0, _ => exact k_95
  | 1, _ => exact k_97
  | k + 2, h => exact absurd h (by omega)
def F_CM : u_T := fun k => match k with
  | 0 => ("ChannelMachine", "reader", "LChannelMachine$Reader;", true)
  | 1 => ("ChannelMachine", "machine", "LChannelMachine$Machine;", true)
  | _ => ("ChannelMachine", "place", "I", false)
def t_CM : Nat → FieldType := fun k => match k with
  | 0 => (.object "ChannelMachine$Reader")
  | 1 => (.object "ChannelMachine$Machine")
  | _ => .int
theorem n_CM : ∀ a, a < 3 → ∀ b, b < 3 → a ≠ b → (F_CM a).2.1 ≠ (F_CM b).2.1 := by decide +kernel
theorem t_CM_ok : ∀ k, k < 3 → parseFieldDescriptor (F_CM k).2.2.1 = some (t_CM k) := by decide +kernel
theorem i_CM : ∀ w ∈ u_ws "ChannelMachine" F_CM 3, w ∈ x_T := by
  intro w hw
  obtain ⟨k, hk, rfl⟩ := List.mem_map.mp hw
  have hk := List.mem_range.mp hk
  match k, hk with
  | 0, _ => exact k_197
  | 1, _ => exact k_199
  | 2, _ => exact k_201
  | k + 3, h => exact absurd h (by omega)
def F_Mo : u_T := fun k => match k with
  | 0 => ("ChannelMachineModel", "text", "[I", true)
  | 1 => ("ChannelMachineModel", "code", "[I", true)
  | 2 => ("ChannelMachineModel", "fresh", "[I", true)
  | 3 => ("ChannelMachineModel", "variables", "[I", true)
  | 4 => ("ChannelMachineModel", "size", "I", false)
  | 5 => ("ChannelMachineModel", "place", "I", false)
  | 6 => ("ChannelMachineModel", "pos", "I", false)
  | 7 => ("ChannelMachineModel", "at", "I", false)
  | 8 => ("ChannelMachineModel", "processes", "I", false)
  | 9 => ("ChannelMachineModel", "status", "I", false)
  | 10 => ("ChannelMachineModel", "operators", "I", false)
  | 11 => ("ChannelMachineModel", "kind", "[I", true)
  | 12 => ("ChannelMachineModel", "head", "[I", true)
  | 13 => ("ChannelMachineModel", "many", "[I", true)
  | 14 => ("ChannelMachineModel", "jumps", "[I", true)
  | 15 => ("ChannelMachineModel", "operator", "[I", true)
  | 16 => ("ChannelMachineModel", "ranks", "[I", true)
  | 17 => ("ChannelMachineModel", "starts", "[I", true)
  | 18 => ("ChannelMachineModel", "open", "I", false)
  | 19 => ("ChannelMachineModel", "compared", "[Z", true)
  | 20 => ("ChannelMachineModel", "pc", "[I", true)
  | 21 => ("ChannelMachineModel", "parent", "[I", true)
  | 22 => ("ChannelMachineModel", "kids", "[I", true)
  | 23 => ("ChannelMachineModel", "order", "[I", true)
  | 24 => ("ChannelMachineModel", "queue", "[I", true)
  | 25 => ("ChannelMachineModel", "pile", "[I", true)
  | 26 => ("ChannelMachineModel", "until", "[J", true)
  | 27 => ("ChannelMachineModel", "there", "[Z", true)
  | 28 => ("ChannelMachineModel", "timed", "[Z", true)
  | 29 => ("ChannelMachineModel", "queued", "I", false)
  | 30 => ("ChannelMachineModel", "current", "I", false)
  | 31 => ("ChannelMachineModel", "stamp", "I", false)
  | 32 => ("ChannelMachineModel", "acts", "I", false)
  | 33 => ("ChannelMachineModel", "thrown", "I", false)
  | 34 => ("ChannelMachineModel", "time", "J", false)
  | 35 => ("ChannelMachineModel", "reader", "[I", true)
  | 36 => ("ChannelMachineModel", "into", "[I", true)
  | 37 => ("ChannelMachineModel", "then", "[I", true)
  | 38 => ("ChannelMachineModel", "writer", "[I", true)
  | 39 => ("ChannelMachineModel", "offered", "[I", true)
  | 40 => ("ChannelMachineModel", "gifts", "[I", true)
  | 41 => ("ChannelMachineModel", "box", "[I", true)
  | 42 => ("ChannelMachineModel", "given", "I", false)
  | 43 => ("ChannelMachineModel", "boxed", "I", false)
  | _ => ("ChannelMachineModel", "end", "I", false)
def t_Mo : Nat → FieldType := fun k => match k with
  | 0 => (.array .int)
  | 1 => (.array .int)
  | 2 => (.array .int)
  | 3 => (.array .int)
  | 4 => .int
  | 5 => .int
  | 6 => .int
  | 7 => .int
  | 8 => .int
  | 9 => .int
  | 10 => .int
  | 11 => (.array .int)
  | 12 => (.array .int)
  | 13 => (.array .int)
  | 14 => (.array .int)
  | 15 => (.array .int)
  | 16 => (.array .int)
  | 17 => (.array .int)
  | 18 => .int
  | 19 => (.array .boolean)
  | 20 => (.array .int)
  | 21 => (.array .int)
  | 22 => (.array .int)
  | 23 => (.array .int)
  | 24 => (.array .int)
  | 25 => (.array .int)
  | 26 => (.array .long)
  | 27 => (.array .boolean)
  | 28 => (.array .boolean)
  | 29 => .int
  | 30 => .int
  | 31 => .int
  | 32 => .int
  | 33 => .int
  | 34 => .long
  | 35 => (.array .int)
  | 36 => (.array .int)
  | 37 => (.array .int)
  | 38 => (.array .int)
  | 39 => (.array .int)
  | 40 => (.array .int)
  | 41 => (.array .int)
  | 42 => .int
  | 43 => .int
  | _ => .int
theorem n_Mo : ∀ a, a < 45 → ∀ b, b < 45 → a ≠ b → (F_Mo a).2.1 ≠ (F_Mo b).2.1 := by decide +kernel
theorem t_Mo_ok : ∀ k, k < 45 → parseFieldDescriptor (F_Mo k).2.2.1 = some (t_Mo k) := by decide +kernel
theorem i_Mo : ∀ w ∈ u_ws "ChannelMachineModel" F_Mo 45, w ∈ x_T := by
  intro w hw
  obtain ⟨k, hk, rfl⟩ := List.mem_map.mp hw
  have hk := List.mem_range.mp hk
  match k, hk with
  | 0, _ => exact k_1012
  | 1, _ => exact k_1014
  | 2, _ => exact k_1016
  | 3, _ => exact k_1018
  | 4, _ => exact k_1020
  | 5, _ => exact k_1022
  | 6, _ => exact k_1024
  | 7, _ => exact k_1026
  | 8, _ => exact k_1028
  | 9, _ => exact k_1030
  | 10, _ => exact k_1032
  | 11, _ => exact k_1034
  | 12, _ => exact k_1036
  | 13, _ => exact k_1038
  | 14, _ => exact k_1040
  | 15, _ => exact k_1042
  | 16, _ => exact k_1044
  | 17, _ => exact k_1046
  | 18, _ => exact k_1048
  | 19, _ => exact k_1050
  | 20, _ => exact k_1052
  | 21, _ => exact k_1054
  | 22, _ => exact k_1056
  | 23, _ => exact k_1058
  | 24, _ => exact k_1060
  | 25, _ => exact k_1062
  | 26, _ => exact k_1064
  | 27, _ => exact k_1066
  | 28, _ => exact k_1068
  | 29, _ => exact k_1070
  | 30, _ => exact k_1072
  | 31, _ => exact k_1074
  | 32, _ => exact k_1076
  | 33, _ => exact k_1078
  | 34, _ => exact k_1080
  | 35, _ => exact k_1082
  | 36, _ => exact k_1084
  | 37, _ => exact k_1086
  | 38, _ => exact k_1088
  | 39, _ => exact k_1090
  | 40, _ => exact k_1092
  | 41, _ => exact k_1094
  | 42, _ => exact k_1096
  | 43, _ => exact k_1098
  | 44, _ => exact k_1100
  | k + 45, h => exact absurd h (by omega)
abbrev x_cl : List vw_C := [("java/util/ArrayList", F_List, 3), ("ChannelMachine$Channel", F_Channel, 4), ("ChannelMachine$Machine", F_Machine, 11), ("ChannelMachine$Reader", F_Reader, 9), ("ChannelMachine$Row", F_Row, 2), ("ChannelMachine", F_CM, 3), ("ChannelMachineModel", F_Mo, 45)]
end
section
-- ===== 06.pre: what every contract takes as given of the state =====
def x_str : List (String × Nat × String) := [("ChannelMachine", 33, "not a character of a text"), ("ChannelMachine", 43, "no room in the text"), ("ChannelMachine", 62, "not a program"), ("ChannelMachine", 81, "not a number of acts"), ("ChannelMachine", 86, "no program to be run"), ("ChannelMachine$Machine", 298, "division by 0"), ("ChannelMachine$Machine", 271, "clash"), ("ChannelMachine$Machine", 130, "deadlock"), ("ChannelMachine", 101, "no room for a gift"), ("ChannelMachine", 115, "the box is empty"), ("ChannelMachine", 122, "not a variable"), ("ChannelMachine", 128, "not a channel")]
/-- what the tables say at a state, beside the words -/
def x_U (D : va_G) (ar : Nat → ClassId) (U : State) : Prop := va_K D x_cl (x_tys ar) U ∧ (∀ w ∈ x_nest, va_Nw w U) ∧ va_AO "ChannelMachine$Channel" U ∧ (∀ q ∈ x_str, ∃ a : Nat, vk_R q.1 q.2.1 q.2.2 a U) ∧ va_Fw "java/util/ArrayList" ⟨"java/util/List", "size", "()I"⟩ ⟨"java/util/ArrayList", "size", "()I"⟩ U ∧ va_Nc "java/lang/IllegalStateException" "java/lang/IllegalArgumentException" U
theorem x_Nc_warm {C T : String} {s U : State} (hW : s.WarmedH U.vm) (h : va_Nc C T s) : va_Nc C T U := by
  obtain ⟨c, t, h1, h2, h3⟩ := h
  exact ⟨c, t, by rw [hW.alike.findClass]; exact h1, by rw [hW.alike.findClass]; exact h2, by rw [hW.alike.assignable]; exact h3⟩
theorem x_U.warm {D : va_G} {ar : Nat → ClassId} {s U : State} (hW : s.WarmedH U.vm) (h : x_U D ar s) : x_U D ar U := ⟨va_K.moved hW.alike h.1, fun w hw => x_nk_warm (List.mem_filter.mp hw).2 hW (h.2.1 w hw), h.2.2.1.moved hW.alike, fun q hq => by
  obtain ⟨a, ha⟩ := h.2.2.2.1 q hq
  exact ⟨a, ha.warm hW⟩, h.2.2.2.2.1.moved (by decide) hW.alike, x_Nc_warm hW h.2.2.2.2.2⟩
theorem x_U.same {D : va_G} {ar : Nat → ClassId} {s U : State} (hW : s.vm = U.vm) (h : x_U D ar s) : x_U D ar U := x_U.warm (by rw [← hW]; exact State.WarmedH.refl s) h
/-- the statics that are read: they lie below N -/
def x_Z (N : Nat) (z : Nat → Nat) (U : State) : Prop := va_Z "java/util/ArrayList" "DEFAULTCAPACITY_EMPTY_ELEMENTDATA" "[Ljava/lang/Object;" (.ref (z 0)) (fun q => N ≤ q) U U.heap ∧ vx_Zq Bundle.tN "UNASSIGNED_STACK" Bundle.steD (fun q => N ≤ q) U U.heap ∧ vx_Zq Bundle.tN "SUPPRESSED_SENTINEL" Bundle.listD (fun q => N ≤ q) U U.heap ∧ va_Z "ChannelMachine$Kind" "LOOP" "LChannelMachine$Kind;" (.ref (z 1)) (fun q => N ≤ q) U U.heap ∧ va_Z "ChannelMachine$Kind" "CONDITION" "LChannelMachine$Kind;" (.ref (z 2)) (fun q => N ≤ q) U U.heap
theorem x_Z.to {N : Nat} {z : Nat → Nat} {s U : State} (hv : s.vm.Alike U.vm) (hk : ∀ a : Nat, a < s.heap.size → ¬ N ≤ a → U.heap[a]? = s.heap[a]?) (h : x_Z N z s) : x_Z N z U := ⟨va_Z.moved hv (h.1.kept hk), vx_Zq.moved hv (h.2.1.kept hk), vx_Zq.moved hv (h.2.2.1.kept hk), va_Z.moved hv (h.2.2.2.1.kept hk), va_Z.moved hv (h.2.2.2.2.kept hk)⟩
def x_Pc (D : va_G) (ar : Nat → ClassId) (N : Nat) (z : Nat → Nat) (ws : va_W) (sz : Nat) (av : List Value) : Array Value → State → Prop := va_Pc av (fun U => U.heap.size = sz ∧ N ≤ sz ∧ va_P D x_cl ws U.heap ∧ x_U D ar U ∧ x_Z N z U ∧ va_D (fun q => N ≤ q) ws)
theorem x_blind {D : va_G} {ar : Nat → ClassId} {N : Nat} {z : Nat → Nat} {ws : va_W} {sz : Nat} {av : List Value} : FrameBlind (x_Pc D ar N z ws sz av) := fun a U g mk q => by
  obtain ⟨q0, q1, q2, qP, qU, qZ, qD⟩ := q
  exact ⟨q0, q1, q2, qP, x_U.same (s := U) (U := U.calling g mk a) rfl qU, x_Z.to (s := U) (U := U.calling g mk a) (Vm.Alike.refl U.vm) (fun _ _ _ => rfl) qZ, qD⟩
/-- a callee's start out of the caller's place -/
theorem x_pre {D : va_G} {ar : Nat → ClassId} {N : Nat} {z : Nat → Nat} {ws : va_W} {av : List Value} {A : Nat → Prop} {s U : State} {H : Heap} {locs : List Loc} (hU : U.heap = H) (hW : s.WarmedH U.vm) (hP : va_P D x_cl ws H) (hD : va_D A ws) (h : x_U D ar s) (hz : x_Z N z s) (hS : va_S A s.heap H locs) (hAN : ∀ q, A q → N ≤ q) (hN : N ≤ s.heap.size) : x_Pc D ar N z ws H.size av av.toArray U :=
  ⟨rfl, by rw [hU], Nat.le_trans hN hS.1, by rw [hU]; exact hP, x_U.warm hW h, x_Z.to hW.alike (fun a h1 h2 => by rw [hU]; exact hS.2.1 a h1 (fun h3 => h2 (hAN a h3))) hz, hD.weaken (fun _ q _ h => hAN q.1 h)⟩
theorem x_AN {N : Nat} {ws : va_W} {sz : Nat} (hD : va_D (fun q => N ≤ q) ws) (hN : N ≤ sz) : ∀ q, va_A ws sz q → N ≤ q := fun q h => by
  rcases h with ⟨k, e, hk⟩ | h
  · exact hD.2 k _ hk
  · exact Nat.le_trans hN h
end
section
-- ===== 07.news: arrays whose class is one of x_tys =====
section XN
variable {p : Program} {l : Launch} {e : Env} {R : Room} {s : State} {m : MethodId} {args : Array Value} {below : List Frame} {meth : Method} {c : Code} {H : Heap} {locs : List Loc} {cells slots : Nat} {Q : State → Prop}
variable {cc : ByteArray} {pc : Nat} {ls : Array Slot} {rest : List Value} {D : va_G} {A : Nat → Prop} {ws : va_W} {H0 : Heap}
theorem x_newa {ar : Nat → ClassId} (hexec : p.tables.exec = Jvm.exec) (hb : c.code = cc) {atype : ArrayType} (harr : (Cond.arrayClass (newarray.typeOf atype)).before args s = true) {ty : FieldType} (hty : newarray.typeOf atype = ty) (hK : va_K D x_cl (x_tys ar) s) (hP : va_P D x_cl ws H) (hD : va_D A ws) (hS : va_S A H0 H locs) (hA : ∀ q, H0.size ≤ q → A q)
    {n : Int32} {N' : Nat} {a0 : vp_A} (ha : ∀ cA : ClassId, vp_cell cA a0 = arrV cA N' (fun _ => defaultValue ty)) (hn : ¬ n < 0) (hN : n.toNatClampNeg = N') (hbytes : N' * componentBytes ty ≤ 536870912) (hcells : cells + 1 ≤ R.cells) (hslots : slots + N' ≤ R.slots) (t0 : Nat) (ht : (x_tys ar)[t0]? = some (ar t0, ty)) (hpr : ty.isReference = false) (hdg : decode cc pc = .ok (.newarray atype, 2))
    (kk : ∀ (q : Nat) (H1 : Heap), va_P D x_cl (ws ++ [(q, .inl (ar t0, a0))]) H1 → va_D A (ws ++ [(q, .inl (ar t0, a0))]) → va_S A H0 H1 locs →
      W p l e R s m args below meth c H1 locs (cells + 1) (slots + N') Q (F0 m (pc + 2) ls (.ref q :: rest))) : W p l e R s m args below meth c H locs cells slots Q (F0 m pc ls (.int n :: rest)) := by
  refine va_newa hexec hb harr hty hK hP hD hS hA ha hn hN hbytes hcells hslots hdg (fun q cA H1 hK1 hP1 hD1 hS1 => ?_)
  have h1 := (hK1.2 (x_tys ar).length (cA, ty) (by simp)).2
  have h2 := (hK.2 t0 _ ht).2
  have e1 : cA = ar t0 := by
    cases ty with
    | object C => cases hpr
    | _ => exact Option.some.inj (h1.symm.trans h2)
  subst e1
  exact kk q H1 hP1 hD1 hS1
theorem x_newq {ar : Nat → ClassId} (hexec : p.tables.exec = Jvm.exec) (hb : c.code = cc) {own C : String} {index : Nat} (hown : s.vm.findClass own = some m.cls) (hclink : (Cond.classLink own index C).before args s = true) (hover : va_AO C s) (hK : va_K D x_cl (x_tys ar) s) (hP : va_P D x_cl ws H) (hD : va_D A ws) (hS : va_S A H0 H locs) (hA : ∀ q, H0.size ≤ q → A q)
    {n : Int32} {N' : Nat} (hn : ¬ n < 0) (hN : n.toNatClampNeg = N') (hbytes : N' * 4 ≤ 536870912) (hcells : cells + 1 ≤ R.cells) (hslots : slots + N' ≤ R.slots) (t0 : Nat) (ht : (x_tys ar)[t0]? = some (ar t0, .object C)) (hdg : decode cc pc = .ok (.anewarray index, 3))
    (kk : ∀ (q : Nat) (H1 : Heap), va_P D x_cl (ws ++ [(q, .inl (ar t0, N', .inr (.inr (.inr (.inr (fun _ => none))))))]) H1 → va_D A (ws ++ [(q, .inl (ar t0, N', .inr (.inr (.inr (.inr (fun _ => none))))))]) → va_S A H0 H1 locs →
      W p l e R s m args below meth c H1 locs (cells + 1) (slots + N') Q (F0 m (pc + 3) ls (.ref q :: rest))) : W p l e R s m args below meth c H locs cells slots Q (F0 m pc ls (.int n :: rest)) := by
  refine va_newq hexec hb hown hclink hover hK hP hD hS hA hn hN hbytes hcells hslots hdg (fun q cA H1 hK1 hP1 hD1 hS1 => ?_)
  obtain ⟨_, _, _, _, _, h1⟩ := (hK1.2 (x_tys ar).length (cA, .object C) (by simp)).2
  obtain ⟨_, _, _, _, _, h2⟩ := (hK.2 t0 _ ht).2
  have e1 : cA = ar t0 := Option.some.inj (h1.symm.trans h2)
  subst e1
  exact kk q H1 hP1 hD1 hS1
end XN
end
section
-- ===== 08.init: constructors, by program =====
theorem k_2 : (Jvm.Cond.initialized "ChannelMachine$Reader") ∈ x_T := x_at 2 (by decide +kernel) (by decide +kernel)
theorem k_3 : (Jvm.Cond.initialized "ChannelMachine$Machine") ∈ x_T := x_at 3 (by decide +kernel) (by decide +kernel)
theorem k_4 : (Jvm.Cond.initialized "ChannelMachine$Row") ∈ x_T := x_at 4 (by decide +kernel) (by decide +kernel)
theorem k_5 : (Jvm.Cond.initialized "java/util/AbstractCollection") ∈ x_T := x_at 5 (by decide +kernel) (by decide +kernel)
theorem k_6 : (Jvm.Cond.initialized "java/util/AbstractList") ∈ x_T := x_at 6 (by decide +kernel) (by decide +kernel)
theorem k_7 : (Jvm.Cond.initialized "java/util/ArrayList") ∈ x_T := x_at 7 (by decide +kernel) (by decide +kernel)
theorem k_8 : (Jvm.Cond.initialized "ChannelMachine$Channel") ∈ x_T := x_at 8 (by decide +kernel) (by decide +kernel)
theorem k_34 : (Jvm.Cond.methodLink "ChannelMachine" (1 : Nat) ({ cls := "java/lang/Object", name := "<init>", desc := "()V" } : Jvm.MethodName)) ∈ x_T := x_at 34 (by decide +kernel) (by decide +kernel)
theorem k_35 : (Jvm.Cond.instanceMethod ({ cls := "java/lang/Object", name := "<init>", desc := "()V" } : Jvm.MethodName)) ∈ x_T := x_at 35 (by decide +kernel) (by decide +kernel)
theorem k_36 : (Jvm.Cond.code ({ cls := "java/lang/Object", name := "<init>", desc := "()V" } : Jvm.MethodName) object_method_1_code (1 : Nat) (Option.none : Option Jvm.ClassFile.FieldType)) ∈ x_T := x_at 36 (by decide +kernel) (by decide +kernel)
theorem k_37 : (Jvm.Cond.classLink "ChannelMachine" (7 : Nat) "ChannelMachine$Reader") ∈ x_T := x_at 37 (by decide +kernel) (by decide +kernel)
theorem k_38 : (Jvm.Cond.instantiable "ChannelMachine$Reader" (9 : Nat)) ∈ x_T := x_at 38 (by decide +kernel) (by decide +kernel)
theorem k_40 : (Jvm.Cond.instanceMethod ({ cls := "ChannelMachine$Reader", name := "<init>", desc := "()V" } : Jvm.MethodName)) ∈ x_T := x_at 40 (by decide +kernel) (by decide +kernel)
theorem k_41 : (Jvm.Cond.code ({ cls := "ChannelMachine$Reader", name := "<init>", desc := "()V" } : Jvm.MethodName) prog_8_method_1_code (1 : Nat) (Option.none : Option Jvm.ClassFile.FieldType)) ∈ x_T := x_at 41 (by decide +kernel) (by decide +kernel)
theorem k_42 : (Jvm.Cond.methodLink "ChannelMachine$Reader" (3 : Nat) ({ cls := "java/lang/Object", name := "<init>", desc := "()V" } : Jvm.MethodName)) ∈ x_T := x_at 42 (by decide +kernel) (by decide +kernel)
theorem k_43 : (Jvm.Cond.fieldLink "ChannelMachine$Reader" (9 : Nat) "ChannelMachine$Reader" "text" "[C") ∈ x_T := x_at 43 (by decide +kernel) (by decide +kernel)
theorem k_44 : (Jvm.Cond.fieldLink "ChannelMachine$Reader" (15 : Nat) "ChannelMachine$Reader" "code" "[I") ∈ x_T := x_at 44 (by decide +kernel) (by decide +kernel)
theorem k_45 : (Jvm.Cond.fieldLink "ChannelMachine$Reader" (19 : Nat) "ChannelMachine$Reader" "length" "I") ∈ x_T := x_at 45 (by decide +kernel) (by decide +kernel)
theorem k_47 : (Jvm.Cond.fieldLink "ChannelMachine$Reader" (23 : Nat) "ChannelMachine$Reader" "codeLength" "I") ∈ x_T := x_at 47 (by decide +kernel) (by decide +kernel)
theorem k_48 : (Jvm.Cond.fieldLink "ChannelMachine$Reader" (26 : Nat) "ChannelMachine$Reader" "limit" "I") ∈ x_T := x_at 48 (by decide +kernel) (by decide +kernel)
theorem k_49 : (Jvm.Cond.fieldLink "ChannelMachine$Reader" (29 : Nat) "ChannelMachine$Reader" "at" "I") ∈ x_T := x_at 49 (by decide +kernel) (by decide +kernel)
theorem k_50 : (Jvm.Cond.fieldLink "ChannelMachine$Reader" (32 : Nat) "ChannelMachine$Reader" "place" "I") ∈ x_T := x_at 50 (by decide +kernel) (by decide +kernel)
theorem k_52 : (Jvm.Cond.fieldLink "ChannelMachine$Reader" (35 : Nat) "ChannelMachine$Reader" "processes" "I") ∈ x_T := x_at 52 (by decide +kernel) (by decide +kernel)
theorem k_54 : (Jvm.Cond.fieldLink "ChannelMachine$Reader" (38 : Nat) "ChannelMachine$Reader" "program" "LChannelMachine$Process;") ∈ x_T := x_at 54 (by decide +kernel) (by decide +kernel)
theorem k_75 : (Jvm.Cond.arrayClass Jvm.ClassFile.FieldType.char) ∈ x_T := x_at 75 (by decide +kernel) (by decide +kernel)
theorem k_76 : (Jvm.Cond.arrayClass Jvm.ClassFile.FieldType.int) ∈ x_T := x_at 76 (by decide +kernel) (by decide +kernel)
theorem k_77 : (Jvm.Cond.classLink "ChannelMachine" (16 : Nat) "ChannelMachine$Machine") ∈ x_T := x_at 77 (by decide +kernel) (by decide +kernel)
theorem k_78 : (Jvm.Cond.instantiable "ChannelMachine$Machine" (11 : Nat)) ∈ x_T := x_at 78 (by decide +kernel) (by decide +kernel)
theorem k_79 : (Jvm.Cond.methodLink "ChannelMachine" (18 : Nat) ({ cls := "ChannelMachine$Machine", name := "<init>", desc := "()V" } : Jvm.MethodName)) ∈ x_T := x_at 79 (by decide +kernel) (by decide +kernel)
theorem k_80 : (Jvm.Cond.instanceMethod ({ cls := "ChannelMachine$Machine", name := "<init>", desc := "()V" } : Jvm.MethodName)) ∈ x_T := x_at 80 (by decide +kernel) (by decide +kernel)
theorem k_81 : (Jvm.Cond.code ({ cls := "ChannelMachine$Machine", name := "<init>", desc := "()V" } : Jvm.MethodName) prog_6_method_1_code (2 : Nat) (Option.none : Option Jvm.ClassFile.FieldType)) ∈ x_T := x_at 81 (by decide +kernel) (by decide +kernel)
theorem k_82 : (Jvm.Cond.methodLink "ChannelMachine$Machine" (3 : Nat) ({ cls := "java/lang/Object", name := "<init>", desc := "()V" } : Jvm.MethodName)) ∈ x_T := x_at 82 (by decide +kernel) (by decide +kernel)
theorem k_83 : (Jvm.Cond.classLink "ChannelMachine$Machine" (15 : Nat) "ChannelMachine$Channel") ∈ x_T := x_at 83 (by decide +kernel) (by decide +kernel)
theorem k_85 : (Jvm.Cond.classLink "ChannelMachine$Machine" (21 : Nat) "ChannelMachine$Row") ∈ x_T := x_at 85 (by decide +kernel) (by decide +kernel)
theorem k_86 : (Jvm.Cond.instantiable "ChannelMachine$Row" (2 : Nat)) ∈ x_T := x_at 86 (by decide +kernel) (by decide +kernel)
theorem k_88 : (Jvm.Cond.instanceMethod ({ cls := "ChannelMachine$Row", name := "<init>", desc := "()V" } : Jvm.MethodName)) ∈ x_T := x_at 88 (by decide +kernel) (by decide +kernel)
theorem k_89 : (Jvm.Cond.code ({ cls := "ChannelMachine$Row", name := "<init>", desc := "()V" } : Jvm.MethodName) prog_9_method_1_code (1 : Nat) (Option.none : Option Jvm.ClassFile.FieldType)) ∈ x_T := x_at 89 (by decide +kernel) (by decide +kernel)
theorem k_90 : (Jvm.Cond.methodLink "ChannelMachine$Row" (3 : Nat) ({ cls := "java/lang/Object", name := "<init>", desc := "()V" } : Jvm.MethodName)) ∈ x_T := x_at 90 (by decide +kernel) (by decide +kernel)
theorem k_91 : (Jvm.Cond.fieldLink "ChannelMachine$Row" (9 : Nat) "ChannelMachine$Row" "values" "[I") ∈ x_T := x_at 91 (by decide +kernel) (by decide +kernel)
theorem k_92 : (Jvm.Cond.fieldLink "ChannelMachine$Row" (15 : Nat) "ChannelMachine$Row" "size" "I") ∈ x_T := x_at 92 (by decide +kernel) (by decide +kernel)
theorem k_100 : (Jvm.Cond.classLink "ChannelMachine$Machine" (31 : Nat) "java/util/ArrayList") ∈ x_T := x_at 100 (by decide +kernel) (by decide +kernel)
theorem k_101 : (Jvm.Cond.instantiable "java/util/ArrayList" (3 : Nat)) ∈ x_T := x_at 101 (by decide +kernel) (by decide +kernel)
theorem k_102 : (Jvm.Cond.methodLink "ChannelMachine$Machine" (33 : Nat) ({ cls := "java/util/ArrayList", name := "<init>", desc := "()V" } : Jvm.MethodName)) ∈ x_T := x_at 102 (by decide +kernel) (by decide +kernel)
theorem k_103 : (Jvm.Cond.instanceMethod ({ cls := "java/util/ArrayList", name := "<init>", desc := "()V" } : Jvm.MethodName)) ∈ x_T := x_at 103 (by decide +kernel) (by decide +kernel)
theorem k_104 : (Jvm.Cond.code ({ cls := "java/util/ArrayList", name := "<init>", desc := "()V" } : Jvm.MethodName) prog_28_method_2_code (1 : Nat) (Option.none : Option Jvm.ClassFile.FieldType)) ∈ x_T := x_at 104 (by decide +kernel) (by decide +kernel)
theorem k_105 : (Jvm.Cond.methodLink "java/util/ArrayList" (1 : Nat) ({ cls := "java/util/AbstractList", name := "<init>", desc := "()V" } : Jvm.MethodName)) ∈ x_T := x_at 105 (by decide +kernel) (by decide +kernel)
theorem k_106 : (Jvm.Cond.instanceMethod ({ cls := "java/util/AbstractList", name := "<init>", desc := "()V" } : Jvm.MethodName)) ∈ x_T := x_at 106 (by decide +kernel) (by decide +kernel)
theorem k_107 : (Jvm.Cond.code ({ cls := "java/util/AbstractList", name := "<init>", desc := "()V" } : Jvm.MethodName) prog_27_method_1_code (1 : Nat) (Option.none : Option Jvm.ClassFile.FieldType)) ∈ x_T := x_at 107 (by decide +kernel) (by decide +kernel)
theorem k_108 : (Jvm.Cond.methodLink "java/util/AbstractList" (1 : Nat) ({ cls := "java/util/AbstractCollection", name := "<init>", desc := "()V" } : Jvm.MethodName)) ∈ x_T := x_at 108 (by decide +kernel) (by decide +kernel)
theorem k_109 : (Jvm.Cond.instanceMethod ({ cls := "java/util/AbstractCollection", name := "<init>", desc := "()V" } : Jvm.MethodName)) ∈ x_T := x_at 109 (by decide +kernel) (by decide +kernel)
theorem k_110 : (Jvm.Cond.code ({ cls := "java/util/AbstractCollection", name := "<init>", desc := "()V" } : Jvm.MethodName) prog_26_method_1_code (1 : Nat) (Option.none : Option Jvm.ClassFile.FieldType)) ∈ x_T := x_at 110 (by decide +kernel) (by decide +kernel)
theorem k_111 : (Jvm.Cond.methodLink "java/util/AbstractCollection" (1 : Nat) ({ cls := "java/lang/Object", name := "<init>", desc := "()V" } : Jvm.MethodName)) ∈ x_T := x_at 111 (by decide +kernel) (by decide +kernel)
theorem k_112 : (Jvm.Cond.fieldLink "java/util/ArrayList" (39 : Nat) "java/util/ArrayList" "DEFAULTCAPACITY_EMPTY_ELEMENTDATA" "[Ljava/lang/Object;") ∈ x_T := x_at 112 (by decide +kernel) (by decide +kernel)
theorem k_114 : (Jvm.Cond.fieldLink "java/util/ArrayList" (9 : Nat) "java/util/ArrayList" "elementData" "[Ljava/lang/Object;") ∈ x_T := x_at 114 (by decide +kernel) (by decide +kernel)
theorem k_116 : (Jvm.Cond.fieldLink "java/util/AbstractList" (7 : Nat) "java/util/AbstractList" "modCount" "I") ∈ x_T := x_at 116 (by decide +kernel) (by decide +kernel)
theorem k_126 : (Jvm.Cond.instantiable "ChannelMachine$Channel" (4 : Nat)) ∈ x_T := x_at 126 (by decide +kernel) (by decide +kernel)
theorem k_128 : (Jvm.Cond.instanceMethod ({ cls := "ChannelMachine$Channel", name := "<init>", desc := "()V" } : Jvm.MethodName)) ∈ x_T := x_at 128 (by decide +kernel) (by decide +kernel)
theorem k_129 : (Jvm.Cond.code ({ cls := "ChannelMachine$Channel", name := "<init>", desc := "()V" } : Jvm.MethodName) prog_3_method_1_code (1 : Nat) (Option.none : Option Jvm.ClassFile.FieldType)) ∈ x_T := x_at 129 (by decide +kernel) (by decide +kernel)
theorem k_130 : (Jvm.Cond.methodLink "ChannelMachine$Channel" (3 : Nat) ({ cls := "java/lang/Object", name := "<init>", desc := "()V" } : Jvm.MethodName)) ∈ x_T := x_at 130 (by decide +kernel) (by decide +kernel)
theorem k_131 : (Jvm.Cond.fieldLink "ChannelMachine$Channel" (9 : Nat) "ChannelMachine$Channel" "sender" "LChannelMachine$Task;") ∈ x_T := x_at 131 (by decide +kernel) (by decide +kernel)
theorem k_134 : (Jvm.Cond.fieldLink "ChannelMachine$Channel" (15 : Nat) "ChannelMachine$Channel" "receiver" "LChannelMachine$Task;") ∈ x_T := x_at 134 (by decide +kernel) (by decide +kernel)
theorem k_137 : (Jvm.Cond.fieldLink "ChannelMachine$Channel" (18 : Nat) "ChannelMachine$Channel" "variable" "I") ∈ x_T := x_at 137 (by decide +kernel) (by decide +kernel)
theorem k_139 : (Jvm.Cond.fieldLink "ChannelMachine$Channel" (22 : Nat) "ChannelMachine$Channel" "follow" "LChannelMachine$Process;") ∈ x_T := x_at 139 (by decide +kernel) (by decide +kernel)
theorem k_150 : (Jvm.Cond.fieldLink "ChannelMachine$Machine" (9 : Nat) "ChannelMachine$Machine" "variables" "[I") ∈ x_T := x_at 150 (by decide +kernel) (by decide +kernel)
theorem k_152 : (Jvm.Cond.fieldLink "ChannelMachine$Machine" (17 : Nat) "ChannelMachine$Machine" "channels" "[LChannelMachine$Channel;") ∈ x_T := x_at 152 (by decide +kernel) (by decide +kernel)
theorem k_154 : (Jvm.Cond.fieldLink "ChannelMachine$Machine" (24 : Nat) "ChannelMachine$Machine" "gifts" "LChannelMachine$Row;") ∈ x_T := x_at 154 (by decide +kernel) (by decide +kernel)
theorem k_156 : (Jvm.Cond.fieldLink "ChannelMachine$Machine" (28 : Nat) "ChannelMachine$Machine" "box" "LChannelMachine$Row;") ∈ x_T := x_at 156 (by decide +kernel) (by decide +kernel)
theorem k_158 : (Jvm.Cond.fieldLink "ChannelMachine$Machine" (34 : Nat) "ChannelMachine$Machine" "queue" "Ljava/util/List;") ∈ x_T := x_at 158 (by decide +kernel) (by decide +kernel)
theorem k_160 : (Jvm.Cond.fieldLink "ChannelMachine$Machine" (38 : Nat) "ChannelMachine$Machine" "sleepers" "Ljava/util/List;") ∈ x_T := x_at 160 (by decide +kernel) (by decide +kernel)
theorem k_162 : (Jvm.Cond.fieldLink "ChannelMachine$Machine" (41 : Nat) "ChannelMachine$Machine" "stack" "[I") ∈ x_T := x_at 162 (by decide +kernel) (by decide +kernel)
theorem k_163 : (Jvm.Cond.fieldLink "ChannelMachine$Machine" (44 : Nat) "ChannelMachine$Machine" "state" "I") ∈ x_T := x_at 163 (by decide +kernel) (by decide +kernel)
theorem k_165 : (Jvm.Cond.fieldLink "ChannelMachine$Machine" (48 : Nat) "ChannelMachine$Machine" "tasks" "I") ∈ x_T := x_at 165 (by decide +kernel) (by decide +kernel)
theorem k_167 : (Jvm.Cond.fieldLink "ChannelMachine$Machine" (51 : Nat) "ChannelMachine$Machine" "acts" "I") ∈ x_T := x_at 167 (by decide +kernel) (by decide +kernel)
theorem k_169 : (Jvm.Cond.fieldLink "ChannelMachine$Machine" (54 : Nat) "ChannelMachine$Machine" "time" "J") ∈ x_T := x_at 169 (by decide +kernel) (by decide +kernel)
theorem k_194 : (Jvm.Cond.fieldLink "ChannelMachine" (10 : Nat) "ChannelMachine" "reader" "LChannelMachine$Reader;") ∈ x_T := x_at 194 (by decide +kernel) (by decide +kernel)
theorem k_195 : (Jvm.Cond.fieldLink "ChannelMachine" (19 : Nat) "ChannelMachine" "machine" "LChannelMachine$Machine;") ∈ x_T := x_at 195 (by decide +kernel) (by decide +kernel)
theorem k_196 : (Jvm.Cond.fieldLink "ChannelMachine" (23 : Nat) "ChannelMachine" "place" "I") ∈ x_T := x_at 196 (by decide +kernel) (by decide +kernel)
theorem k_966 : (Jvm.Cond.methodLink "ChannelMachineModel" (1 : Nat) ({ cls := "java/lang/Object", name := "<init>", desc := "()V" } : Jvm.MethodName)) ∈ x_T := x_at 966 (by decide +kernel) (by decide +kernel)
theorem k_967 : (Jvm.Cond.fieldLink "ChannelMachineModel" (7 : Nat) "ChannelMachineModel" "text" "[I") ∈ x_T := x_at 967 (by decide +kernel) (by decide +kernel)
theorem k_968 : (Jvm.Cond.fieldLink "ChannelMachineModel" (13 : Nat) "ChannelMachineModel" "code" "[I") ∈ x_T := x_at 968 (by decide +kernel) (by decide +kernel)
theorem k_969 : (Jvm.Cond.fieldLink "ChannelMachineModel" (16 : Nat) "ChannelMachineModel" "fresh" "[I") ∈ x_T := x_at 969 (by decide +kernel) (by decide +kernel)
theorem k_970 : (Jvm.Cond.fieldLink "ChannelMachineModel" (19 : Nat) "ChannelMachineModel" "variables" "[I") ∈ x_T := x_at 970 (by decide +kernel) (by decide +kernel)
theorem k_972 : (Jvm.Cond.fieldLink "ChannelMachineModel" (22 : Nat) "ChannelMachineModel" "place" "I") ∈ x_T := x_at 972 (by decide +kernel) (by decide +kernel)
theorem k_978 : (Jvm.Cond.fieldLink "ChannelMachineModel" (26 : Nat) "ChannelMachineModel" "kind" "[I") ∈ x_T := x_at 978 (by decide +kernel) (by decide +kernel)
theorem k_979 : (Jvm.Cond.fieldLink "ChannelMachineModel" (29 : Nat) "ChannelMachineModel" "head" "[I") ∈ x_T := x_at 979 (by decide +kernel) (by decide +kernel)
theorem k_980 : (Jvm.Cond.fieldLink "ChannelMachineModel" (32 : Nat) "ChannelMachineModel" "many" "[I") ∈ x_T := x_at 980 (by decide +kernel) (by decide +kernel)
theorem k_981 : (Jvm.Cond.fieldLink "ChannelMachineModel" (35 : Nat) "ChannelMachineModel" "jumps" "[I") ∈ x_T := x_at 981 (by decide +kernel) (by decide +kernel)
theorem k_982 : (Jvm.Cond.fieldLink "ChannelMachineModel" (38 : Nat) "ChannelMachineModel" "operator" "[I") ∈ x_T := x_at 982 (by decide +kernel) (by decide +kernel)
theorem k_983 : (Jvm.Cond.fieldLink "ChannelMachineModel" (41 : Nat) "ChannelMachineModel" "ranks" "[I") ∈ x_T := x_at 983 (by decide +kernel) (by decide +kernel)
theorem k_984 : (Jvm.Cond.fieldLink "ChannelMachineModel" (44 : Nat) "ChannelMachineModel" "starts" "[I") ∈ x_T := x_at 984 (by decide +kernel) (by decide +kernel)
theorem k_986 : (Jvm.Cond.fieldLink "ChannelMachineModel" (47 : Nat) "ChannelMachineModel" "compared" "[Z") ∈ x_T := x_at 986 (by decide +kernel) (by decide +kernel)
theorem k_987 : (Jvm.Cond.fieldLink "ChannelMachineModel" (51 : Nat) "ChannelMachineModel" "pc" "[I") ∈ x_T := x_at 987 (by decide +kernel) (by decide +kernel)
theorem k_988 : (Jvm.Cond.fieldLink "ChannelMachineModel" (54 : Nat) "ChannelMachineModel" "parent" "[I") ∈ x_T := x_at 988 (by decide +kernel) (by decide +kernel)
theorem k_989 : (Jvm.Cond.fieldLink "ChannelMachineModel" (57 : Nat) "ChannelMachineModel" "kids" "[I") ∈ x_T := x_at 989 (by decide +kernel) (by decide +kernel)
theorem k_990 : (Jvm.Cond.fieldLink "ChannelMachineModel" (60 : Nat) "ChannelMachineModel" "order" "[I") ∈ x_T := x_at 990 (by decide +kernel) (by decide +kernel)
theorem k_991 : (Jvm.Cond.fieldLink "ChannelMachineModel" (63 : Nat) "ChannelMachineModel" "queue" "[I") ∈ x_T := x_at 991 (by decide +kernel) (by decide +kernel)
theorem k_992 : (Jvm.Cond.fieldLink "ChannelMachineModel" (66 : Nat) "ChannelMachineModel" "pile" "[I") ∈ x_T := x_at 992 (by decide +kernel) (by decide +kernel)
theorem k_993 : (Jvm.Cond.fieldLink "ChannelMachineModel" (69 : Nat) "ChannelMachineModel" "until" "[J") ∈ x_T := x_at 993 (by decide +kernel) (by decide +kernel)
theorem k_994 : (Jvm.Cond.fieldLink "ChannelMachineModel" (73 : Nat) "ChannelMachineModel" "there" "[Z") ∈ x_T := x_at 994 (by decide +kernel) (by decide +kernel)
theorem k_995 : (Jvm.Cond.fieldLink "ChannelMachineModel" (76 : Nat) "ChannelMachineModel" "timed" "[Z") ∈ x_T := x_at 995 (by decide +kernel) (by decide +kernel)
theorem k_997 : (Jvm.Cond.fieldLink "ChannelMachineModel" (79 : Nat) "ChannelMachineModel" "current" "I") ∈ x_T := x_at 997 (by decide +kernel) (by decide +kernel)
theorem k_1002 : (Jvm.Cond.fieldLink "ChannelMachineModel" (82 : Nat) "ChannelMachineModel" "reader" "[I") ∈ x_T := x_at 1002 (by decide +kernel) (by decide +kernel)
theorem k_1003 : (Jvm.Cond.fieldLink "ChannelMachineModel" (85 : Nat) "ChannelMachineModel" "into" "[I") ∈ x_T := x_at 1003 (by decide +kernel) (by decide +kernel)
theorem k_1004 : (Jvm.Cond.fieldLink "ChannelMachineModel" (88 : Nat) "ChannelMachineModel" "then" "[I") ∈ x_T := x_at 1004 (by decide +kernel) (by decide +kernel)
theorem k_1005 : (Jvm.Cond.fieldLink "ChannelMachineModel" (91 : Nat) "ChannelMachineModel" "writer" "[I") ∈ x_T := x_at 1005 (by decide +kernel) (by decide +kernel)
theorem k_1006 : (Jvm.Cond.fieldLink "ChannelMachineModel" (94 : Nat) "ChannelMachineModel" "offered" "[I") ∈ x_T := x_at 1006 (by decide +kernel) (by decide +kernel)
theorem k_1007 : (Jvm.Cond.fieldLink "ChannelMachineModel" (97 : Nat) "ChannelMachineModel" "gifts" "[I") ∈ x_T := x_at 1007 (by decide +kernel) (by decide +kernel)
theorem k_1008 : (Jvm.Cond.fieldLink "ChannelMachineModel" (100 : Nat) "ChannelMachineModel" "box" "[I") ∈ x_T := x_at 1008 (by decide +kernel) (by decide +kernel)
theorem k_1103 : (Jvm.Cond.arrayClass Jvm.ClassFile.FieldType.boolean) ∈ x_T := x_at 1103 (by decide +kernel) (by decide +kernel)
theorem k_1104 : (Jvm.Cond.arrayClass Jvm.ClassFile.FieldType.long) ∈ x_T := x_at 1104 (by decide +kernel) (by decide +kernel)
theorem kn_39 : (Jvm.Cond.methodLinkNest "ChannelMachine" (9 : Nat) ({ cls := "ChannelMachine$Reader", name := "<init>", desc := "()V" } : Jvm.MethodName) "ChannelMachine") ∈ x_nest := x_nest_at 39 (by decide +kernel) (by decide +kernel)
theorem kn_87 : (Jvm.Cond.methodLinkNest "ChannelMachine$Machine" (23 : Nat) ({ cls := "ChannelMachine$Row", name := "<init>", desc := "()V" } : Jvm.MethodName) "ChannelMachine") ∈ x_nest := x_nest_at 87 (by decide +kernel) (by decide +kernel)
theorem kn_127 : (Jvm.Cond.methodLinkNest "ChannelMachine$Machine" (58 : Nat) ({ cls := "ChannelMachine$Channel", name := "<init>", desc := "()V" } : Jvm.MethodName) "ChannelMachine") ∈ x_nest := x_nest_at 127 (by decide +kernel) (by decide +kernel)
theorem d_Channel_init_0 : decode prog_3_method_1_code 0 = .ok (.aload_n 0, 1) := by decide +kernel
theorem d_Channel_init_1 : decode prog_3_method_1_code 1 = .ok (.invokespecial 3, 3) := by decide +kernel
theorem d_Channel_init_4 : decode prog_3_method_1_code 4 = .ok (.aload_n 0, 1) := by decide +kernel
theorem d_Channel_init_5 : decode prog_3_method_1_code 5 = .ok (.aconst_null, 1) := by decide +kernel
theorem d_Channel_init_6 : decode prog_3_method_1_code 6 = .ok (.putfield 9, 3) := by decide +kernel
theorem d_Channel_init_9 : decode prog_3_method_1_code 9 = .ok (.aload_n 0, 1) := by decide +kernel
theorem d_Channel_init_10 : decode prog_3_method_1_code 10 = .ok (.aconst_null, 1) := by decide +kernel
theorem d_Channel_init_11 : decode prog_3_method_1_code 11 = .ok (.putfield 15, 3) := by decide +kernel
theorem d_Channel_init_14 : decode prog_3_method_1_code 14 = .ok (.aload_n 0, 1) := by decide +kernel
theorem d_Channel_init_15 : decode prog_3_method_1_code 15 = .ok (.iconst (-1), 1) := by decide +kernel
theorem d_Channel_init_16 : decode prog_3_method_1_code 16 = .ok (.putfield 18, 3) := by decide +kernel
theorem d_Channel_init_19 : decode prog_3_method_1_code 19 = .ok (.aload_n 0, 1) := by decide +kernel
theorem d_Channel_init_20 : decode prog_3_method_1_code 20 = .ok (.aconst_null, 1) := by decide +kernel
theorem d_Channel_init_21 : decode prog_3_method_1_code 21 = .ok (.putfield 22, 3) := by decide +kernel
theorem d_Channel_init_24 : decode prog_3_method_1_code 24 = .ok (.return_, 1) := by decide +kernel
theorem d_Row_init_0 : decode prog_9_method_1_code 0 = .ok (.aload_n 0, 1) := by decide +kernel
theorem d_Row_init_1 : decode prog_9_method_1_code 1 = .ok (.invokespecial 3, 3) := by decide +kernel
theorem d_Row_init_4 : decode prog_9_method_1_code 4 = .ok (.aload_n 0, 1) := by decide +kernel
theorem d_Row_init_5 : decode prog_9_method_1_code 5 = .ok (.bipush 8, 2) := by decide +kernel
theorem d_Row_init_7 : decode prog_9_method_1_code 7 = .ok (.newarray .int, 2) := by decide +kernel
theorem d_Row_init_9 : decode prog_9_method_1_code 9 = .ok (.putfield 9, 3) := by decide +kernel
theorem d_Row_init_12 : decode prog_9_method_1_code 12 = .ok (.aload_n 0, 1) := by decide +kernel
theorem d_Row_init_13 : decode prog_9_method_1_code 13 = .ok (.iconst 0, 1) := by decide +kernel
theorem d_Row_init_14 : decode prog_9_method_1_code 14 = .ok (.putfield 15, 3) := by decide +kernel
theorem d_Row_init_17 : decode prog_9_method_1_code 17 = .ok (.return_, 1) := by decide +kernel
theorem d_Reader_init_0 : decode prog_8_method_1_code 0 = .ok (.aload_n 0, 1) := by decide +kernel
theorem d_Reader_init_1 : decode prog_8_method_1_code 1 = .ok (.invokespecial 3, 3) := by decide +kernel
theorem d_Reader_init_4 : decode prog_8_method_1_code 4 = .ok (.aload_n 0, 1) := by decide +kernel
theorem d_Reader_init_5 : decode prog_8_method_1_code 5 = .ok (.bipush 72, 2) := by decide +kernel
theorem d_Reader_init_7 : decode prog_8_method_1_code 7 = .ok (.newarray .char, 2) := by decide +kernel
theorem d_Reader_init_9 : decode prog_8_method_1_code 9 = .ok (.putfield 9, 3) := by decide +kernel
theorem d_Reader_init_12 : decode prog_8_method_1_code 12 = .ok (.aload_n 0, 1) := by decide +kernel
theorem d_Reader_init_13 : decode prog_8_method_1_code 13 = .ok (.bipush 72, 2) := by decide +kernel
theorem d_Reader_init_15 : decode prog_8_method_1_code 15 = .ok (.newarray .int, 2) := by decide +kernel
theorem d_Reader_init_17 : decode prog_8_method_1_code 17 = .ok (.putfield 15, 3) := by decide +kernel
theorem d_Reader_init_20 : decode prog_8_method_1_code 20 = .ok (.aload_n 0, 1) := by decide +kernel
theorem d_Reader_init_21 : decode prog_8_method_1_code 21 = .ok (.iconst 0, 1) := by decide +kernel
theorem d_Reader_init_22 : decode prog_8_method_1_code 22 = .ok (.putfield 19, 3) := by decide +kernel
theorem d_Reader_init_25 : decode prog_8_method_1_code 25 = .ok (.aload_n 0, 1) := by decide +kernel
theorem d_Reader_init_26 : decode prog_8_method_1_code 26 = .ok (.iconst 0, 1) := by decide +kernel
theorem d_Reader_init_27 : decode prog_8_method_1_code 27 = .ok (.putfield 23, 3) := by decide +kernel
theorem d_Reader_init_30 : decode prog_8_method_1_code 30 = .ok (.aload_n 0, 1) := by decide +kernel
theorem d_Reader_init_31 : decode prog_8_method_1_code 31 = .ok (.iconst 0, 1) := by decide +kernel
theorem d_Reader_init_32 : decode prog_8_method_1_code 32 = .ok (.putfield 26, 3) := by decide +kernel
theorem d_Reader_init_35 : decode prog_8_method_1_code 35 = .ok (.aload_n 0, 1) := by decide +kernel
theorem d_Reader_init_36 : decode prog_8_method_1_code 36 = .ok (.iconst 0, 1) := by decide +kernel
theorem d_Reader_init_37 : decode prog_8_method_1_code 37 = .ok (.putfield 29, 3) := by decide +kernel
theorem d_Reader_init_40 : decode prog_8_method_1_code 40 = .ok (.aload_n 0, 1) := by decide +kernel
theorem d_Reader_init_41 : decode prog_8_method_1_code 41 = .ok (.iconst 0, 1) := by decide +kernel
theorem d_Reader_init_42 : decode prog_8_method_1_code 42 = .ok (.putfield 32, 3) := by decide +kernel
theorem d_Reader_init_45 : decode prog_8_method_1_code 45 = .ok (.aload_n 0, 1) := by decide +kernel
theorem d_Reader_init_46 : decode prog_8_method_1_code 46 = .ok (.iconst 0, 1) := by decide +kernel
theorem d_Reader_init_47 : decode prog_8_method_1_code 47 = .ok (.putfield 35, 3) := by decide +kernel
theorem d_Reader_init_50 : decode prog_8_method_1_code 50 = .ok (.aload_n 0, 1) := by decide +kernel
theorem d_Reader_init_51 : decode prog_8_method_1_code 51 = .ok (.aconst_null, 1) := by decide +kernel
theorem d_Reader_init_52 : decode prog_8_method_1_code 52 = .ok (.putfield 38, 3) := by decide +kernel
theorem d_Reader_init_55 : decode prog_8_method_1_code 55 = .ok (.return_, 1) := by decide +kernel
theorem d_AbstractCollection_init_0 : decode prog_26_method_1_code 0 = .ok (.aload_n 0, 1) := by decide +kernel
theorem d_AbstractCollection_init_1 : decode prog_26_method_1_code 1 = .ok (.invokespecial 1, 3) := by decide +kernel
theorem d_AbstractCollection_init_4 : decode prog_26_method_1_code 4 = .ok (.return_, 1) := by decide +kernel
theorem d_AbstractList_init_0 : decode prog_27_method_1_code 0 = .ok (.aload_n 0, 1) := by decide +kernel
theorem d_AbstractList_init_1 : decode prog_27_method_1_code 1 = .ok (.invokespecial 1, 3) := by decide +kernel
theorem d_AbstractList_init_4 : decode prog_27_method_1_code 4 = .ok (.aload_n 0, 1) := by decide +kernel
theorem d_AbstractList_init_5 : decode prog_27_method_1_code 5 = .ok (.iconst 0, 1) := by decide +kernel
theorem d_AbstractList_init_6 : decode prog_27_method_1_code 6 = .ok (.putfield 7, 3) := by decide +kernel
theorem d_AbstractList_init_9 : decode prog_27_method_1_code 9 = .ok (.return_, 1) := by decide +kernel
theorem d_ArrayList_init_0 : decode prog_28_method_2_code 0 = .ok (.aload_n 0, 1) := by decide +kernel
theorem d_ArrayList_init_1 : decode prog_28_method_2_code 1 = .ok (.invokespecial 1, 3) := by decide +kernel
theorem d_ArrayList_init_4 : decode prog_28_method_2_code 4 = .ok (.aload_n 0, 1) := by decide +kernel
theorem d_ArrayList_init_5 : decode prog_28_method_2_code 5 = .ok (.getstatic 39, 3) := by decide +kernel
theorem d_ArrayList_init_8 : decode prog_28_method_2_code 8 = .ok (.putfield 9, 3) := by decide +kernel
theorem d_ArrayList_init_11 : decode prog_28_method_2_code 11 = .ok (.return_, 1) := by decide +kernel
theorem d_Machine_init_0 : decode prog_6_method_1_code 0 = .ok (.aload_n 0, 1) := by decide +kernel
theorem d_Machine_init_1 : decode prog_6_method_1_code 1 = .ok (.invokespecial 3, 3) := by decide +kernel
theorem d_Machine_init_4 : decode prog_6_method_1_code 4 = .ok (.aload_n 0, 1) := by decide +kernel
theorem d_Machine_init_5 : decode prog_6_method_1_code 5 = .ok (.bipush 6, 2) := by decide +kernel
theorem d_Machine_init_7 : decode prog_6_method_1_code 7 = .ok (.newarray .int, 2) := by decide +kernel
theorem d_Machine_init_9 : decode prog_6_method_1_code 9 = .ok (.putfield 9, 3) := by decide +kernel
theorem d_Machine_init_12 : decode prog_6_method_1_code 12 = .ok (.aload_n 0, 1) := by decide +kernel
theorem d_Machine_init_13 : decode prog_6_method_1_code 13 = .ok (.bipush 6, 2) := by decide +kernel
theorem d_Machine_init_15 : decode prog_6_method_1_code 15 = .ok (.anewarray 15, 3) := by decide +kernel
theorem d_Machine_init_18 : decode prog_6_method_1_code 18 = .ok (.putfield 17, 3) := by decide +kernel
theorem d_Machine_init_21 : decode prog_6_method_1_code 21 = .ok (.aload_n 0, 1) := by decide +kernel
theorem d_Machine_init_22 : decode prog_6_method_1_code 22 = .ok (.new 21, 3) := by decide +kernel
theorem d_Machine_init_25 : decode prog_6_method_1_code 25 = .ok (.dup, 1) := by decide +kernel
theorem d_Machine_init_26 : decode prog_6_method_1_code 26 = .ok (.invokespecial 23, 3) := by decide +kernel
theorem d_Machine_init_29 : decode prog_6_method_1_code 29 = .ok (.putfield 24, 3) := by decide +kernel
theorem d_Machine_init_32 : decode prog_6_method_1_code 32 = .ok (.aload_n 0, 1) := by decide +kernel
theorem d_Machine_init_33 : decode prog_6_method_1_code 33 = .ok (.new 21, 3) := by decide +kernel
theorem d_Machine_init_36 : decode prog_6_method_1_code 36 = .ok (.dup, 1) := by decide +kernel
theorem d_Machine_init_37 : decode prog_6_method_1_code 37 = .ok (.invokespecial 23, 3) := by decide +kernel
theorem d_Machine_init_40 : decode prog_6_method_1_code 40 = .ok (.putfield 28, 3) := by decide +kernel
theorem d_Machine_init_43 : decode prog_6_method_1_code 43 = .ok (.aload_n 0, 1) := by decide +kernel
theorem d_Machine_init_44 : decode prog_6_method_1_code 44 = .ok (.new 31, 3) := by decide +kernel
theorem d_Machine_init_47 : decode prog_6_method_1_code 47 = .ok (.dup, 1) := by decide +kernel
theorem d_Machine_init_48 : decode prog_6_method_1_code 48 = .ok (.invokespecial 33, 3) := by decide +kernel
theorem d_Machine_init_51 : decode prog_6_method_1_code 51 = .ok (.putfield 34, 3) := by decide +kernel
theorem d_Machine_init_54 : decode prog_6_method_1_code 54 = .ok (.aload_n 0, 1) := by decide +kernel
theorem d_Machine_init_55 : decode prog_6_method_1_code 55 = .ok (.new 31, 3) := by decide +kernel
theorem d_Machine_init_58 : decode prog_6_method_1_code 58 = .ok (.dup, 1) := by decide +kernel
theorem d_Machine_init_59 : decode prog_6_method_1_code 59 = .ok (.invokespecial 33, 3) := by decide +kernel
theorem d_Machine_init_62 : decode prog_6_method_1_code 62 = .ok (.putfield 38, 3) := by decide +kernel
theorem d_Machine_init_65 : decode prog_6_method_1_code 65 = .ok (.aload_n 0, 1) := by decide +kernel
theorem d_Machine_init_66 : decode prog_6_method_1_code 66 = .ok (.bipush 72, 2) := by decide +kernel
theorem d_Machine_init_68 : decode prog_6_method_1_code 68 = .ok (.newarray .int, 2) := by decide +kernel
theorem d_Machine_init_70 : decode prog_6_method_1_code 70 = .ok (.putfield 41, 3) := by decide +kernel
theorem d_Machine_init_73 : decode prog_6_method_1_code 73 = .ok (.aload_n 0, 1) := by decide +kernel
theorem d_Machine_init_74 : decode prog_6_method_1_code 74 = .ok (.iconst 0, 1) := by decide +kernel
theorem d_Machine_init_75 : decode prog_6_method_1_code 75 = .ok (.putfield 44, 3) := by decide +kernel
theorem d_Machine_init_78 : decode prog_6_method_1_code 78 = .ok (.aload_n 0, 1) := by decide +kernel
theorem d_Machine_init_79 : decode prog_6_method_1_code 79 = .ok (.iconst 0, 1) := by decide +kernel
theorem d_Machine_init_80 : decode prog_6_method_1_code 80 = .ok (.putfield 48, 3) := by decide +kernel
theorem d_Machine_init_83 : decode prog_6_method_1_code 83 = .ok (.aload_n 0, 1) := by decide +kernel
theorem d_Machine_init_84 : decode prog_6_method_1_code 84 = .ok (.iconst 0, 1) := by decide +kernel
theorem d_Machine_init_85 : decode prog_6_method_1_code 85 = .ok (.putfield 51, 3) := by decide +kernel
theorem d_Machine_init_88 : decode prog_6_method_1_code 88 = .ok (.aload_n 0, 1) := by decide +kernel
theorem d_Machine_init_89 : decode prog_6_method_1_code 89 = .ok (.lconst 0, 1) := by decide +kernel
theorem d_Machine_init_90 : decode prog_6_method_1_code 90 = .ok (.putfield 54, 3) := by decide +kernel
theorem d_Machine_init_93 : decode prog_6_method_1_code 93 = .ok (.iconst 0, 1) := by decide +kernel
theorem d_Machine_init_94 : decode prog_6_method_1_code 94 = .ok (.istore_n 1, 1) := by decide +kernel
theorem d_Machine_init_95 : decode prog_6_method_1_code 95 = .ok (.iload_n 1, 1) := by decide +kernel
theorem d_Machine_init_96 : decode prog_6_method_1_code 96 = .ok (.bipush 6, 2) := by decide +kernel
theorem d_Machine_init_98 : decode prog_6_method_1_code 98 = .ok (.if_icmp .ge 22, 3) := by decide +kernel
theorem d_Machine_init_101 : decode prog_6_method_1_code 101 = .ok (.aload_n 0, 1) := by decide +kernel
theorem d_Machine_init_102 : decode prog_6_method_1_code 102 = .ok (.getfield 17, 3) := by decide +kernel
theorem d_Machine_init_105 : decode prog_6_method_1_code 105 = .ok (.iload_n 1, 1) := by decide +kernel
theorem d_Machine_init_106 : decode prog_6_method_1_code 106 = .ok (.new 15, 3) := by decide +kernel
theorem d_Machine_init_109 : decode prog_6_method_1_code 109 = .ok (.dup, 1) := by decide +kernel
theorem d_Machine_init_110 : decode prog_6_method_1_code 110 = .ok (.invokespecial 58, 3) := by decide +kernel
theorem d_Machine_init_113 : decode prog_6_method_1_code 113 = .ok (.aastore, 1) := by decide +kernel
theorem d_Machine_init_114 : decode prog_6_method_1_code 114 = .ok (.iinc 1 1, 3) := by decide +kernel
theorem d_Machine_init_117 : decode prog_6_method_1_code 117 = .ok (.goto (-22), 3) := by decide +kernel
theorem d_Machine_init_120 : decode prog_6_method_1_code 120 = .ok (.return_, 1) := by decide +kernel
theorem d_CM_init_0 : decode prog_1_method_1_code 0 = .ok (.aload_n 0, 1) := by decide +kernel
theorem d_CM_init_1 : decode prog_1_method_1_code 1 = .ok (.invokespecial 1, 3) := by decide +kernel
theorem d_CM_init_4 : decode prog_1_method_1_code 4 = .ok (.aload_n 0, 1) := by decide +kernel
theorem d_CM_init_5 : decode prog_1_method_1_code 5 = .ok (.new 7, 3) := by decide +kernel
theorem d_CM_init_8 : decode prog_1_method_1_code 8 = .ok (.dup, 1) := by decide +kernel
theorem d_CM_init_9 : decode prog_1_method_1_code 9 = .ok (.invokespecial 9, 3) := by decide +kernel
theorem d_CM_init_12 : decode prog_1_method_1_code 12 = .ok (.putfield 10, 3) := by decide +kernel
theorem d_CM_init_15 : decode prog_1_method_1_code 15 = .ok (.aload_n 0, 1) := by decide +kernel
theorem d_CM_init_16 : decode prog_1_method_1_code 16 = .ok (.new 16, 3) := by decide +kernel
theorem d_CM_init_19 : decode prog_1_method_1_code 19 = .ok (.dup, 1) := by decide +kernel
theorem d_CM_init_20 : decode prog_1_method_1_code 20 = .ok (.invokespecial 18, 3) := by decide +kernel
theorem d_CM_init_23 : decode prog_1_method_1_code 23 = .ok (.putfield 19, 3) := by decide +kernel
theorem d_CM_init_26 : decode prog_1_method_1_code 26 = .ok (.aload_n 0, 1) := by decide +kernel
theorem d_CM_init_27 : decode prog_1_method_1_code 27 = .ok (.iconst (-1), 1) := by decide +kernel
theorem d_CM_init_28 : decode prog_1_method_1_code 28 = .ok (.putfield 23, 3) := by decide +kernel
theorem d_CM_init_31 : decode prog_1_method_1_code 31 = .ok (.return_, 1) := by decide +kernel
theorem d_Mo_init_0 : decode prog_12_method_1_code 0 = .ok (.aload_n 0, 1) := by decide +kernel
theorem d_Mo_init_1 : decode prog_12_method_1_code 1 = .ok (.invokespecial 1, 3) := by decide +kernel
theorem d_Mo_init_4 : decode prog_12_method_1_code 4 = .ok (.aload_n 0, 1) := by decide +kernel
theorem d_Mo_init_5 : decode prog_12_method_1_code 5 = .ok (.bipush 72, 2) := by decide +kernel
theorem d_Mo_init_7 : decode prog_12_method_1_code 7 = .ok (.newarray .int, 2) := by decide +kernel
theorem d_Mo_init_9 : decode prog_12_method_1_code 9 = .ok (.putfield 7, 3) := by decide +kernel
theorem d_Mo_init_12 : decode prog_12_method_1_code 12 = .ok (.aload_n 0, 1) := by decide +kernel
theorem d_Mo_init_13 : decode prog_12_method_1_code 13 = .ok (.sipush 1200, 3) := by decide +kernel
theorem d_Mo_init_16 : decode prog_12_method_1_code 16 = .ok (.newarray .int, 2) := by decide +kernel
theorem d_Mo_init_18 : decode prog_12_method_1_code 18 = .ok (.putfield 13, 3) := by decide +kernel
theorem d_Mo_init_21 : decode prog_12_method_1_code 21 = .ok (.aload_n 0, 1) := by decide +kernel
theorem d_Mo_init_22 : decode prog_12_method_1_code 22 = .ok (.sipush 1200, 3) := by decide +kernel
theorem d_Mo_init_25 : decode prog_12_method_1_code 25 = .ok (.newarray .int, 2) := by decide +kernel
theorem d_Mo_init_27 : decode prog_12_method_1_code 27 = .ok (.putfield 16, 3) := by decide +kernel
theorem d_Mo_init_30 : decode prog_12_method_1_code 30 = .ok (.aload_n 0, 1) := by decide +kernel
theorem d_Mo_init_31 : decode prog_12_method_1_code 31 = .ok (.bipush 6, 2) := by decide +kernel
theorem d_Mo_init_33 : decode prog_12_method_1_code 33 = .ok (.newarray .int, 2) := by decide +kernel
theorem d_Mo_init_35 : decode prog_12_method_1_code 35 = .ok (.putfield 19, 3) := by decide +kernel
theorem d_Mo_init_38 : decode prog_12_method_1_code 38 = .ok (.aload_n 0, 1) := by decide +kernel
theorem d_Mo_init_39 : decode prog_12_method_1_code 39 = .ok (.iconst (-1), 1) := by decide +kernel
theorem d_Mo_init_40 : decode prog_12_method_1_code 40 = .ok (.putfield 22, 3) := by decide +kernel
theorem d_Mo_init_43 : decode prog_12_method_1_code 43 = .ok (.aload_n 0, 1) := by decide +kernel
theorem d_Mo_init_44 : decode prog_12_method_1_code 44 = .ok (.bipush 80, 2) := by decide +kernel
theorem d_Mo_init_46 : decode prog_12_method_1_code 46 = .ok (.newarray .int, 2) := by decide +kernel
theorem d_Mo_init_48 : decode prog_12_method_1_code 48 = .ok (.putfield 26, 3) := by decide +kernel
theorem d_Mo_init_51 : decode prog_12_method_1_code 51 = .ok (.aload_n 0, 1) := by decide +kernel
theorem d_Mo_init_52 : decode prog_12_method_1_code 52 = .ok (.bipush 80, 2) := by decide +kernel
theorem d_Mo_init_54 : decode prog_12_method_1_code 54 = .ok (.newarray .int, 2) := by decide +kernel
theorem d_Mo_init_56 : decode prog_12_method_1_code 56 = .ok (.putfield 29, 3) := by decide +kernel
theorem d_Mo_init_59 : decode prog_12_method_1_code 59 = .ok (.aload_n 0, 1) := by decide +kernel
theorem d_Mo_init_60 : decode prog_12_method_1_code 60 = .ok (.bipush 80, 2) := by decide +kernel
theorem d_Mo_init_62 : decode prog_12_method_1_code 62 = .ok (.newarray .int, 2) := by decide +kernel
theorem d_Mo_init_64 : decode prog_12_method_1_code 64 = .ok (.putfield 32, 3) := by decide +kernel
theorem d_Mo_init_67 : decode prog_12_method_1_code 67 = .ok (.aload_n 0, 1) := by decide +kernel
theorem d_Mo_init_68 : decode prog_12_method_1_code 68 = .ok (.sipush 320, 3) := by decide +kernel
theorem d_Mo_init_71 : decode prog_12_method_1_code 71 = .ok (.newarray .int, 2) := by decide +kernel
theorem d_Mo_init_73 : decode prog_12_method_1_code 73 = .ok (.putfield 35, 3) := by decide +kernel
theorem d_Mo_init_76 : decode prog_12_method_1_code 76 = .ok (.aload_n 0, 1) := by decide +kernel
theorem d_Mo_init_77 : decode prog_12_method_1_code 77 = .ok (.bipush 40, 2) := by decide +kernel
theorem d_Mo_init_79 : decode prog_12_method_1_code 79 = .ok (.newarray .int, 2) := by decide +kernel
theorem d_Mo_init_81 : decode prog_12_method_1_code 81 = .ok (.putfield 38, 3) := by decide +kernel
theorem d_Mo_init_84 : decode prog_12_method_1_code 84 = .ok (.aload_n 0, 1) := by decide +kernel
theorem d_Mo_init_85 : decode prog_12_method_1_code 85 = .ok (.bipush 40, 2) := by decide +kernel
theorem d_Mo_init_87 : decode prog_12_method_1_code 87 = .ok (.newarray .int, 2) := by decide +kernel
theorem d_Mo_init_89 : decode prog_12_method_1_code 89 = .ok (.putfield 41, 3) := by decide +kernel
theorem d_Mo_init_92 : decode prog_12_method_1_code 92 = .ok (.aload_n 0, 1) := by decide +kernel
theorem d_Mo_init_93 : decode prog_12_method_1_code 93 = .ok (.bipush 8, 2) := by decide +kernel
theorem d_Mo_init_95 : decode prog_12_method_1_code 95 = .ok (.newarray .int, 2) := by decide +kernel
theorem d_Mo_init_97 : decode prog_12_method_1_code 97 = .ok (.putfield 44, 3) := by decide +kernel
theorem d_Mo_init_100 : decode prog_12_method_1_code 100 = .ok (.aload_n 0, 1) := by decide +kernel
theorem d_Mo_init_101 : decode prog_12_method_1_code 101 = .ok (.bipush 8, 2) := by decide +kernel
theorem d_Mo_init_103 : decode prog_12_method_1_code 103 = .ok (.newarray .boolean, 2) := by decide +kernel
theorem d_Mo_init_105 : decode prog_12_method_1_code 105 = .ok (.putfield 47, 3) := by decide +kernel
theorem d_Mo_init_108 : decode prog_12_method_1_code 108 = .ok (.aload_n 0, 1) := by decide +kernel
theorem d_Mo_init_109 : decode prog_12_method_1_code 109 = .ok (.bipush 90, 2) := by decide +kernel
theorem d_Mo_init_111 : decode prog_12_method_1_code 111 = .ok (.newarray .int, 2) := by decide +kernel
theorem d_Mo_init_113 : decode prog_12_method_1_code 113 = .ok (.putfield 51, 3) := by decide +kernel
theorem d_Mo_init_116 : decode prog_12_method_1_code 116 = .ok (.aload_n 0, 1) := by decide +kernel
theorem d_Mo_init_117 : decode prog_12_method_1_code 117 = .ok (.bipush 90, 2) := by decide +kernel
theorem d_Mo_init_119 : decode prog_12_method_1_code 119 = .ok (.newarray .int, 2) := by decide +kernel
theorem d_Mo_init_121 : decode prog_12_method_1_code 121 = .ok (.putfield 54, 3) := by decide +kernel
theorem d_Mo_init_124 : decode prog_12_method_1_code 124 = .ok (.aload_n 0, 1) := by decide +kernel
theorem d_Mo_init_125 : decode prog_12_method_1_code 125 = .ok (.bipush 90, 2) := by decide +kernel
theorem d_Mo_init_127 : decode prog_12_method_1_code 127 = .ok (.newarray .int, 2) := by decide +kernel
theorem d_Mo_init_129 : decode prog_12_method_1_code 129 = .ok (.putfield 57, 3) := by decide +kernel
theorem d_Mo_init_132 : decode prog_12_method_1_code 132 = .ok (.aload_n 0, 1) := by decide +kernel
theorem d_Mo_init_133 : decode prog_12_method_1_code 133 = .ok (.bipush 90, 2) := by decide +kernel
theorem d_Mo_init_135 : decode prog_12_method_1_code 135 = .ok (.newarray .int, 2) := by decide +kernel
theorem d_Mo_init_137 : decode prog_12_method_1_code 137 = .ok (.putfield 60, 3) := by decide +kernel
theorem d_Mo_init_140 : decode prog_12_method_1_code 140 = .ok (.aload_n 0, 1) := by decide +kernel
theorem d_Mo_init_141 : decode prog_12_method_1_code 141 = .ok (.bipush 90, 2) := by decide +kernel
theorem d_Mo_init_143 : decode prog_12_method_1_code 143 = .ok (.newarray .int, 2) := by decide +kernel
theorem d_Mo_init_145 : decode prog_12_method_1_code 145 = .ok (.putfield 63, 3) := by decide +kernel
theorem d_Mo_init_148 : decode prog_12_method_1_code 148 = .ok (.aload_n 0, 1) := by decide +kernel
theorem d_Mo_init_149 : decode prog_12_method_1_code 149 = .ok (.bipush 80, 2) := by decide +kernel
theorem d_Mo_init_151 : decode prog_12_method_1_code 151 = .ok (.newarray .int, 2) := by decide +kernel
theorem d_Mo_init_153 : decode prog_12_method_1_code 153 = .ok (.putfield 66, 3) := by decide +kernel
theorem d_Mo_init_156 : decode prog_12_method_1_code 156 = .ok (.aload_n 0, 1) := by decide +kernel
theorem d_Mo_init_157 : decode prog_12_method_1_code 157 = .ok (.bipush 90, 2) := by decide +kernel
theorem d_Mo_init_159 : decode prog_12_method_1_code 159 = .ok (.newarray .long, 2) := by decide +kernel
theorem d_Mo_init_161 : decode prog_12_method_1_code 161 = .ok (.putfield 69, 3) := by decide +kernel
theorem d_Mo_init_164 : decode prog_12_method_1_code 164 = .ok (.aload_n 0, 1) := by decide +kernel
theorem d_Mo_init_165 : decode prog_12_method_1_code 165 = .ok (.bipush 90, 2) := by decide +kernel
theorem d_Mo_init_167 : decode prog_12_method_1_code 167 = .ok (.newarray .boolean, 2) := by decide +kernel
theorem d_Mo_init_169 : decode prog_12_method_1_code 169 = .ok (.putfield 73, 3) := by decide +kernel
theorem d_Mo_init_172 : decode prog_12_method_1_code 172 = .ok (.aload_n 0, 1) := by decide +kernel
theorem d_Mo_init_173 : decode prog_12_method_1_code 173 = .ok (.bipush 90, 2) := by decide +kernel
theorem d_Mo_init_175 : decode prog_12_method_1_code 175 = .ok (.newarray .boolean, 2) := by decide +kernel
theorem d_Mo_init_177 : decode prog_12_method_1_code 177 = .ok (.putfield 76, 3) := by decide +kernel
theorem d_Mo_init_180 : decode prog_12_method_1_code 180 = .ok (.aload_n 0, 1) := by decide +kernel
theorem d_Mo_init_181 : decode prog_12_method_1_code 181 = .ok (.iconst (-1), 1) := by decide +kernel
theorem d_Mo_init_182 : decode prog_12_method_1_code 182 = .ok (.putfield 79, 3) := by decide +kernel
theorem d_Mo_init_185 : decode prog_12_method_1_code 185 = .ok (.aload_n 0, 1) := by decide +kernel
theorem d_Mo_init_186 : decode prog_12_method_1_code 186 = .ok (.bipush 6, 2) := by decide +kernel
theorem d_Mo_init_188 : decode prog_12_method_1_code 188 = .ok (.newarray .int, 2) := by decide +kernel
theorem d_Mo_init_190 : decode prog_12_method_1_code 190 = .ok (.putfield 82, 3) := by decide +kernel
theorem d_Mo_init_193 : decode prog_12_method_1_code 193 = .ok (.aload_n 0, 1) := by decide +kernel
theorem d_Mo_init_194 : decode prog_12_method_1_code 194 = .ok (.bipush 6, 2) := by decide +kernel
theorem d_Mo_init_196 : decode prog_12_method_1_code 196 = .ok (.newarray .int, 2) := by decide +kernel
theorem d_Mo_init_198 : decode prog_12_method_1_code 198 = .ok (.putfield 85, 3) := by decide +kernel
theorem d_Mo_init_201 : decode prog_12_method_1_code 201 = .ok (.aload_n 0, 1) := by decide +kernel
theorem d_Mo_init_202 : decode prog_12_method_1_code 202 = .ok (.bipush 6, 2) := by decide +kernel
theorem d_Mo_init_204 : decode prog_12_method_1_code 204 = .ok (.newarray .int, 2) := by decide +kernel
theorem d_Mo_init_206 : decode prog_12_method_1_code 206 = .ok (.putfield 88, 3) := by decide +kernel
theorem d_Mo_init_209 : decode prog_12_method_1_code 209 = .ok (.aload_n 0, 1) := by decide +kernel
theorem d_Mo_init_210 : decode prog_12_method_1_code 210 = .ok (.bipush 6, 2) := by decide +kernel
theorem d_Mo_init_212 : decode prog_12_method_1_code 212 = .ok (.newarray .int, 2) := by decide +kernel
theorem d_Mo_init_214 : decode prog_12_method_1_code 214 = .ok (.putfield 91, 3) := by decide +kernel
theorem d_Mo_init_217 : decode prog_12_method_1_code 217 = .ok (.aload_n 0, 1) := by decide +kernel
theorem d_Mo_init_218 : decode prog_12_method_1_code 218 = .ok (.bipush 6, 2) := by decide +kernel
theorem d_Mo_init_220 : decode prog_12_method_1_code 220 = .ok (.newarray .int, 2) := by decide +kernel
theorem d_Mo_init_222 : decode prog_12_method_1_code 222 = .ok (.putfield 94, 3) := by decide +kernel
theorem d_Mo_init_225 : decode prog_12_method_1_code 225 = .ok (.aload_n 0, 1) := by decide +kernel
theorem d_Mo_init_226 : decode prog_12_method_1_code 226 = .ok (.bipush 8, 2) := by decide +kernel
theorem d_Mo_init_228 : decode prog_12_method_1_code 228 = .ok (.newarray .int, 2) := by decide +kernel
theorem d_Mo_init_230 : decode prog_12_method_1_code 230 = .ok (.putfield 97, 3) := by decide +kernel
theorem d_Mo_init_233 : decode prog_12_method_1_code 233 = .ok (.aload_n 0, 1) := by decide +kernel
theorem d_Mo_init_234 : decode prog_12_method_1_code 234 = .ok (.bipush 8, 2) := by decide +kernel
theorem d_Mo_init_236 : decode prog_12_method_1_code 236 = .ok (.newarray .int, 2) := by decide +kernel
theorem d_Mo_init_238 : decode prog_12_method_1_code 238 = .ok (.putfield 100, 3) := by decide +kernel
theorem d_Mo_init_241 : decode prog_12_method_1_code 241 = .ok (.return_, 1) := by decide +kernel
set_option maxHeartbeats 4000000 in
set_option maxRecDepth 100000 in
theorem c_Channel_init (l : Launch) (dC : Nat → ClassId) (dI : Nat → Nat → Nat) (ar : Nat → ClassId) (N0 : Nat) (z : Nat → Nat) (h0 : Nat) (sz : Nat) : Met l ({ cls := "ChannelMachine$Channel", name := "<init>", desc := "()V" } : Jvm.MethodName) ((Jvm.Cond.code ({ cls := "ChannelMachine$Channel", name := "<init>", desc := "()V" } : Jvm.MethodName) prog_3_method_1_code (1 : Nat) (Option.none : Option Jvm.ClassFile.FieldType)) :: x_T) ({ frames := 1, cells := 0, slots := 0, locals := 14 }) (x_Pc (dC, dI) ar N0 z [(h0, .inr (1, [.null, .null, .int 0, .null]))] sz [.ref h0]) (va_Qv (fun _ : Unit => True) (fun _ t => va_P (dC, dI) x_cl [(h0, .inr (1, [.null, .null, .int (-1), .null]))] t.heap ∧ va_D (va_A [(h0, .inr (1, [.null, .null, .int 0, .null]))] sz) [(h0, .inr (1, [.null, .null, .int (-1), .null]))]) (va_A [(h0, .inr (1, [.null, .null, .int 0, .null]))] sz)) 0 0 (va_A [(h0, .inr (1, [.null, .null, .int 0, .null]))] sz) := by
  refine Met.ofW (cc := prog_3_method_1_code) (maxL := 1) (ret := none) (by decide) rfl ?_
  intro p e s m args below meth c s₁ B hml hv
  obtain ⟨rfl, hsz, hN0, hP, hU, hZ, hD0⟩ := hv
  have hK := hU.1
  have hx := B.exec
  have hb := B.bytes
  have hr := B.returns
  have hts : ∀ w ∈ x_T, w.before ([.ref h0] : List Value).toArray s = true := fun w h => atoms_spec (ws := (Jvm.Cond.code ({ cls := "ChannelMachine$Channel", name := "<init>", desc := "()V" } : Jvm.MethodName) prog_3_method_1_code (1 : Nat) (Option.none : Option Jvm.ClassFile.FieldType)) :: x_T) B.pre w (List.mem_cons_of_mem _ h)
  have hown : s.vm.findClass "ChannelMachine$Channel" = some m.cls := findClass_of_methodNamed B.named
  have hlocks := B.notSynchronized
  have hin : meth.name = "<init>" := (name_of_methodNamed B.named B.method).1
  subst hsz
  have hD := hD0.self (sz := s.heap.size)
  have hAN := x_AN hD0 hN0
  generalize hAe : va_A [(h0, .inr (1, [.null, .null, .int 0, .null]))] s.heap.size = A at hD hAN ⊢
  have hA : ∀ q : Nat, s.heap.size ≤ q → A q := fun q h => by rw [← hAe]; exact Or.inr h
  have hS : va_S A s.heap s.heap [] := va_S.rf
  have hP : va_P (dC, dI) x_cl [(h0, .inr (1, [.null, .null, .int 0, .null]))] s.heap := hP
  have hl := lv_entry ([.ref h0]) (n := 1) (Nat.le_of_ble_eq_true rfl)
  rw [lg_entry_eq]
  generalize (lg_sl ([.ref h0]) ++ List.replicate (1 - (lg_sl ([.ref h0])).length) Slot.unset).toArray = ls at hl ⊢
  have hl : lv_has ls 1 [(0, .ref h0)] := hl
  have hH0 : s.heap.size ≤ s.heap.size := Nat.le_refl _
  refine lv_aload_n hx hb d_Channel_init_0 rfl (lv_at hl 0 rfl) ?_
  refine W.objInit hx hb hown (hts _ k_130) (hts _ k_35) (hts _ k_36) rfl (by rw [hml]; exact hl.1) rfl d_Channel_init_1 (Nat.le_of_ble_eq_true rfl) (Nat.le_of_ble_eq_true rfl) ?_
  refine W.eq (g2 := F0 m 4 ls []) rfl ?_
  refine lv_aload_n hx hb d_Channel_init_4 rfl (lv_at hl 0 rfl) ?_
  refine lv_null hx hb d_Channel_init_5 ?_
  refine va_put (D := (dC, dI)) (ci := 1) (v := .null) (ty := (.object "ChannelMachine$Task")) (C := "ChannelMachine$Channel") (T := F_Channel) (N := 4) hx hb hts i_Channel t_Channel t_Channel_ok n_Channel hown hK hP hD hS 0 rfl rfl 0 (by decide) (hts _ k_131) (fun _ h9 => h9) rfl (by decide +kernel) rfl rfl (Nat.le_of_ble_eq_true rfl) d_Channel_init_6 (fun H locs hP hD hS => ?_)
  have hP : va_P (dC, dI) x_cl [(h0, .inr (1, [.null, .null, .int 0, .null]))] H := hP
  have hD : va_D A [(h0, .inr (1, [.null, .null, .int 0, .null]))] := hD
  refine lv_aload_n hx hb d_Channel_init_9 rfl (lv_at hl 0 rfl) ?_
  refine lv_null hx hb d_Channel_init_10 ?_
  refine va_put (D := (dC, dI)) (ci := 1) (v := .null) (ty := (.object "ChannelMachine$Task")) (C := "ChannelMachine$Channel") (T := F_Channel) (N := 4) hx hb hts i_Channel t_Channel t_Channel_ok n_Channel hown hK hP hD hS 0 rfl rfl 1 (by decide) (hts _ k_134) (fun _ h9 => h9) rfl (by decide +kernel) rfl rfl (Nat.le_of_ble_eq_true rfl) d_Channel_init_11 (fun H locs hP hD hS => ?_)
  have hP : va_P (dC, dI) x_cl [(h0, .inr (1, [.null, .null, .int 0, .null]))] H := hP
  have hD : va_D A [(h0, .inr (1, [.null, .null, .int 0, .null]))] := hD
  refine lv_aload_n hx hb d_Channel_init_14 rfl (lv_at hl 0 rfl) ?_
  refine lv_iconst (v := (-1)) hx hb d_Channel_init_15 (by decide) ?_
  refine va_put (D := (dC, dI)) (ci := 1) (v := .int (-1)) (ty := .int) (C := "ChannelMachine$Channel") (T := F_Channel) (N := 4) hx hb hts i_Channel t_Channel t_Channel_ok n_Channel hown hK hP hD hS 0 rfl rfl 2 (by decide) (hts _ k_137) (fun _ h9 => h9) rfl (by decide +kernel) rfl rfl (Nat.le_of_ble_eq_true rfl) d_Channel_init_16 (fun H locs hP hD hS => ?_)
  have hP : va_P (dC, dI) x_cl [(h0, .inr (1, [.null, .null, .int (-1), .null]))] H := hP
  have hD : va_D A [(h0, .inr (1, [.null, .null, .int (-1), .null]))] := hD
  refine lv_aload_n hx hb d_Channel_init_19 rfl (lv_at hl 0 rfl) ?_
  refine lv_null hx hb d_Channel_init_20 ?_
  refine va_put (D := (dC, dI)) (ci := 1) (v := .null) (ty := (.object "ChannelMachine$Process")) (C := "ChannelMachine$Channel") (T := F_Channel) (N := 4) hx hb hts i_Channel t_Channel t_Channel_ok n_Channel hown hK hP hD hS 0 rfl rfl 3 (by decide) (hts _ k_139) (fun _ h9 => h9) rfl (by decide +kernel) rfl rfl (Nat.le_of_ble_eq_true rfl) d_Channel_init_21 (fun H locs hP hD hS => ?_)
  have hP : va_P (dC, dI) x_cl [(h0, .inr (1, [.null, .null, .int (-1), .null]))] H := hP
  have hD : va_D A [(h0, .inr (1, [.null, .null, .int (-1), .null]))] := hD
  exact W.vret hx hb hr (fun t ht hW => ⟨⟨(), rfl, trivial, by rw [ht]; exact hP, hD⟩, hS.F ht⟩) hS.2.2 d_Channel_init_24
set_option maxHeartbeats 4000000 in
set_option maxRecDepth 100000 in
theorem c_Row_init (l : Launch) (dC : Nat → ClassId) (dI : Nat → Nat → Nat) (ar : Nat → ClassId) (N0 : Nat) (z : Nat → Nat) (h0 : Nat) (sz : Nat) : Met l ({ cls := "ChannelMachine$Row", name := "<init>", desc := "()V" } : Jvm.MethodName) ((Jvm.Cond.code ({ cls := "ChannelMachine$Row", name := "<init>", desc := "()V" } : Jvm.MethodName) prog_9_method_1_code (1 : Nat) (Option.none : Option Jvm.ClassFile.FieldType)) :: x_T) ({ frames := 1, cells := 1, slots := 8, locals := 14 }) (x_Pc (dC, dI) ar N0 z [(h0, .inr (4, [.null, .int 0]))] sz [.ref h0]) (va_Qv (fun _ : Unit => True) (fun _ t => ∃ (q1 : Nat), va_P (dC, dI) x_cl [(h0, .inr (4, [.ref q1, .int 0])), (q1, .inl (ar 0, 8, .inl (fun _ => 0)))] t.heap ∧ va_D (va_A [(h0, .inr (4, [.null, .int 0]))] sz) [(h0, .inr (4, [.ref q1, .int 0])), (q1, .inl (ar 0, 8, .inl (fun _ => 0)))]) (va_A [(h0, .inr (4, [.null, .int 0]))] sz)) 1 8 (va_A [(h0, .inr (4, [.null, .int 0]))] sz) := by
  refine Met.ofW (cc := prog_9_method_1_code) (maxL := 1) (ret := none) (by decide) rfl ?_
  intro p e s m args below meth c s₁ B hml hv
  obtain ⟨rfl, hsz, hN0, hP, hU, hZ, hD0⟩ := hv
  have hK := hU.1
  have hx := B.exec
  have hb := B.bytes
  have hr := B.returns
  have hts : ∀ w ∈ x_T, w.before ([.ref h0] : List Value).toArray s = true := fun w h => atoms_spec (ws := (Jvm.Cond.code ({ cls := "ChannelMachine$Row", name := "<init>", desc := "()V" } : Jvm.MethodName) prog_9_method_1_code (1 : Nat) (Option.none : Option Jvm.ClassFile.FieldType)) :: x_T) B.pre w (List.mem_cons_of_mem _ h)
  have hown : s.vm.findClass "ChannelMachine$Row" = some m.cls := findClass_of_methodNamed B.named
  have hlocks := B.notSynchronized
  have hin : meth.name = "<init>" := (name_of_methodNamed B.named B.method).1
  subst hsz
  have hD := hD0.self (sz := s.heap.size)
  have hAN := x_AN hD0 hN0
  generalize hAe : va_A [(h0, .inr (4, [.null, .int 0]))] s.heap.size = A at hD hAN ⊢
  have hA : ∀ q : Nat, s.heap.size ≤ q → A q := fun q h => by rw [← hAe]; exact Or.inr h
  have hS : va_S A s.heap s.heap [] := va_S.rf
  have hP : va_P (dC, dI) x_cl [(h0, .inr (4, [.null, .int 0]))] s.heap := hP
  have hl := lv_entry ([.ref h0]) (n := 1) (Nat.le_of_ble_eq_true rfl)
  rw [lg_entry_eq]
  generalize (lg_sl ([.ref h0]) ++ List.replicate (1 - (lg_sl ([.ref h0])).length) Slot.unset).toArray = ls at hl ⊢
  have hl : lv_has ls 1 [(0, .ref h0)] := hl
  have hH0 : s.heap.size ≤ s.heap.size := Nat.le_refl _
  refine lv_aload_n hx hb d_Row_init_0 rfl (lv_at hl 0 rfl) ?_
  refine W.objInit hx hb hown (hts _ k_90) (hts _ k_35) (hts _ k_36) rfl (by rw [hml]; exact hl.1) rfl d_Row_init_1 (Nat.le_of_ble_eq_true rfl) (Nat.le_of_ble_eq_true rfl) ?_
  refine W.eq (g2 := F0 m 4 ls []) rfl ?_
  refine lv_aload_n hx hb d_Row_init_4 rfl (lv_at hl 0 rfl) ?_
  refine lv_bipush (v := 8) hx hb d_Row_init_5 (by decide) ?_
  refine x_newa (D := (dC, dI)) (ar := ar) (atype := .int) hx hb (hts _ k_76) (ty := .int) rfl hK hP hD hS hA (N' := 8) (a0 := (8, .inl (fun _ => 0))) (fun _ => rfl) (by decide) (by decide) (by decide) (Nat.le_of_ble_eq_true rfl) (Nat.le_of_ble_eq_true rfl) 0 rfl (by decide) d_Row_init_7 (fun q1 H hP hD hS => ?_)
  have hP : va_P (dC, dI) x_cl [(h0, .inr (4, [.null, .int 0])), (q1, .inl (ar 0, 8, .inl (fun _ => 0)))] H := hP
  have hD : va_D A [(h0, .inr (4, [.null, .int 0])), (q1, .inl (ar 0, 8, .inl (fun _ => 0)))] := hD
  refine W.widen (k := 1) (n := 8) (Nat.le_of_ble_eq_true rfl) (Nat.le_of_ble_eq_true rfl) ?_
  refine va_putF (D := (dC, dI)) (ci := 4) (v := .ref q1) (ty := (.array .int)) (C := "ChannelMachine$Row") (T := F_Row) (N := 2) hx hb hts i_Row t_Row t_Row_ok n_Row hown hK hP hD hS 0 rfl rfl 0 (by decide) (hts _ k_91) (fun _ h9 => h9) rfl hin rfl (by decide +kernel) rfl rfl (Nat.le_of_ble_eq_true rfl) d_Row_init_9 (fun H locs hP hD hS => ?_)
  have hP : va_P (dC, dI) x_cl [(h0, .inr (4, [.ref q1, .int 0])), (q1, .inl (ar 0, 8, .inl (fun _ => 0)))] H := hP
  have hD : va_D A [(h0, .inr (4, [.ref q1, .int 0])), (q1, .inl (ar 0, 8, .inl (fun _ => 0)))] := hD
  refine lv_aload_n hx hb d_Row_init_12 rfl (lv_at hl 0 rfl) ?_
  refine lv_iconst (v := 0) hx hb d_Row_init_13 (by decide) ?_
  refine va_put (D := (dC, dI)) (ci := 4) (v := .int 0) (ty := .int) (C := "ChannelMachine$Row") (T := F_Row) (N := 2) hx hb hts i_Row t_Row t_Row_ok n_Row hown hK hP hD hS 0 rfl rfl 1 (by decide) (hts _ k_92) (fun _ h9 => h9) rfl (by decide +kernel) rfl rfl (Nat.le_of_ble_eq_true rfl) d_Row_init_14 (fun H locs hP hD hS => ?_)
  have hP : va_P (dC, dI) x_cl [(h0, .inr (4, [.ref q1, .int 0])), (q1, .inl (ar 0, 8, .inl (fun _ => 0)))] H := hP
  have hD : va_D A [(h0, .inr (4, [.ref q1, .int 0])), (q1, .inl (ar 0, 8, .inl (fun _ => 0)))] := hD
  exact W.vret hx hb hr (fun t ht hW => ⟨⟨(), rfl, trivial, q1, by rw [ht]; exact hP, hD⟩, hS.F ht⟩) hS.2.2 d_Row_init_17
set_option maxHeartbeats 4000000 in
set_option maxRecDepth 100000 in
theorem c_Reader_init (l : Launch) (dC : Nat → ClassId) (dI : Nat → Nat → Nat) (ar : Nat → ClassId) (N0 : Nat) (z : Nat → Nat) (h0 : Nat) (sz : Nat) : Met l ({ cls := "ChannelMachine$Reader", name := "<init>", desc := "()V" } : Jvm.MethodName) ((Jvm.Cond.code ({ cls := "ChannelMachine$Reader", name := "<init>", desc := "()V" } : Jvm.MethodName) prog_8_method_1_code (1 : Nat) (Option.none : Option Jvm.ClassFile.FieldType)) :: x_T) ({ frames := 1, cells := 2, slots := 144, locals := 14 }) (x_Pc (dC, dI) ar N0 z [(h0, .inr (3, [.null, .null, .int 0, .int 0, .int 0, .int 0, .int 0, .int 0, .null]))] sz [.ref h0]) (va_Qv (fun _ : Unit => True) (fun _ t => ∃ (q1 : Nat) (q2 : Nat), va_P (dC, dI) x_cl [(h0, .inr (3, [.ref q1, .ref q2, .int 0, .int 0, .int 0, .int 0, .int 0, .int 0, .null])), (q1, .inl (ar 1, 72, .inl (fun _ => 0))), (q2, .inl (ar 0, 72, .inl (fun _ => 0)))] t.heap ∧ va_D (va_A [(h0, .inr (3, [.null, .null, .int 0, .int 0, .int 0, .int 0, .int 0, .int 0, .null]))] sz) [(h0, .inr (3, [.ref q1, .ref q2, .int 0, .int 0, .int 0, .int 0, .int 0, .int 0, .null])), (q1, .inl (ar 1, 72, .inl (fun _ => 0))), (q2, .inl (ar 0, 72, .inl (fun _ => 0)))]) (va_A [(h0, .inr (3, [.null, .null, .int 0, .int 0, .int 0, .int 0, .int 0, .int 0, .null]))] sz)) 2 144 (va_A [(h0, .inr (3, [.null, .null, .int 0, .int 0, .int 0, .int 0, .int 0, .int 0, .null]))] sz) := by
  refine Met.ofW (cc := prog_8_method_1_code) (maxL := 1) (ret := none) (by decide) rfl ?_
  intro p e s m args below meth c s₁ B hml hv
  obtain ⟨rfl, hsz, hN0, hP, hU, hZ, hD0⟩ := hv
  have hK := hU.1
  have hx := B.exec
  have hb := B.bytes
  have hr := B.returns
  have hts : ∀ w ∈ x_T, w.before ([.ref h0] : List Value).toArray s = true := fun w h => atoms_spec (ws := (Jvm.Cond.code ({ cls := "ChannelMachine$Reader", name := "<init>", desc := "()V" } : Jvm.MethodName) prog_8_method_1_code (1 : Nat) (Option.none : Option Jvm.ClassFile.FieldType)) :: x_T) B.pre w (List.mem_cons_of_mem _ h)
  have hown : s.vm.findClass "ChannelMachine$Reader" = some m.cls := findClass_of_methodNamed B.named
  have hlocks := B.notSynchronized
  have hin : meth.name = "<init>" := (name_of_methodNamed B.named B.method).1
  subst hsz
  have hD := hD0.self (sz := s.heap.size)
  have hAN := x_AN hD0 hN0
  generalize hAe : va_A [(h0, .inr (3, [.null, .null, .int 0, .int 0, .int 0, .int 0, .int 0, .int 0, .null]))] s.heap.size = A at hD hAN ⊢
  have hA : ∀ q : Nat, s.heap.size ≤ q → A q := fun q h => by rw [← hAe]; exact Or.inr h
  have hS : va_S A s.heap s.heap [] := va_S.rf
  have hP : va_P (dC, dI) x_cl [(h0, .inr (3, [.null, .null, .int 0, .int 0, .int 0, .int 0, .int 0, .int 0, .null]))] s.heap := hP
  have hl := lv_entry ([.ref h0]) (n := 1) (Nat.le_of_ble_eq_true rfl)
  rw [lg_entry_eq]
  generalize (lg_sl ([.ref h0]) ++ List.replicate (1 - (lg_sl ([.ref h0])).length) Slot.unset).toArray = ls at hl ⊢
  have hl : lv_has ls 1 [(0, .ref h0)] := hl
  have hH0 : s.heap.size ≤ s.heap.size := Nat.le_refl _
  refine lv_aload_n hx hb d_Reader_init_0 rfl (lv_at hl 0 rfl) ?_
  refine W.objInit hx hb hown (hts _ k_42) (hts _ k_35) (hts _ k_36) rfl (by rw [hml]; exact hl.1) rfl d_Reader_init_1 (Nat.le_of_ble_eq_true rfl) (Nat.le_of_ble_eq_true rfl) ?_
  refine W.eq (g2 := F0 m 4 ls []) rfl ?_
  refine lv_aload_n hx hb d_Reader_init_4 rfl (lv_at hl 0 rfl) ?_
  refine lv_bipush (v := 72) hx hb d_Reader_init_5 (by decide) ?_
  refine x_newa (D := (dC, dI)) (ar := ar) (atype := .char) hx hb (hts _ k_75) (ty := .char) rfl hK hP hD hS hA (N' := 72) (a0 := (72, .inl (fun _ => 0))) (fun _ => rfl) (by decide) (by decide) (by decide) (Nat.le_of_ble_eq_true rfl) (Nat.le_of_ble_eq_true rfl) 1 rfl (by decide) d_Reader_init_7 (fun q1 H hP hD hS => ?_)
  have hP : va_P (dC, dI) x_cl [(h0, .inr (3, [.null, .null, .int 0, .int 0, .int 0, .int 0, .int 0, .int 0, .null])), (q1, .inl (ar 1, 72, .inl (fun _ => 0)))] H := hP
  have hD : va_D A [(h0, .inr (3, [.null, .null, .int 0, .int 0, .int 0, .int 0, .int 0, .int 0, .null])), (q1, .inl (ar 1, 72, .inl (fun _ => 0)))] := hD
  refine W.widen (k := 1) (n := 72) (Nat.le_of_ble_eq_true rfl) (Nat.le_of_ble_eq_true rfl) ?_
  refine va_putF (D := (dC, dI)) (ci := 3) (v := .ref q1) (ty := (.array .char)) (C := "ChannelMachine$Reader") (T := F_Reader) (N := 9) hx hb hts i_Reader t_Reader t_Reader_ok n_Reader hown hK hP hD hS 0 rfl rfl 0 (by decide) (hts _ k_43) (fun _ h9 => h9) rfl hin rfl (by decide +kernel) rfl rfl (Nat.le_of_ble_eq_true rfl) d_Reader_init_9 (fun H locs hP hD hS => ?_)
  have hP : va_P (dC, dI) x_cl [(h0, .inr (3, [.ref q1, .null, .int 0, .int 0, .int 0, .int 0, .int 0, .int 0, .null])), (q1, .inl (ar 1, 72, .inl (fun _ => 0)))] H := hP
  have hD : va_D A [(h0, .inr (3, [.ref q1, .null, .int 0, .int 0, .int 0, .int 0, .int 0, .int 0, .null])), (q1, .inl (ar 1, 72, .inl (fun _ => 0)))] := hD
  refine lv_aload_n hx hb d_Reader_init_12 rfl (lv_at hl 0 rfl) ?_
  refine lv_bipush (v := 72) hx hb d_Reader_init_13 (by decide) ?_
  refine x_newa (D := (dC, dI)) (ar := ar) (atype := .int) hx hb (hts _ k_76) (ty := .int) rfl hK hP hD hS hA (N' := 72) (a0 := (72, .inl (fun _ => 0))) (fun _ => rfl) (by decide) (by decide) (by decide) (Nat.le_of_ble_eq_true rfl) (Nat.le_of_ble_eq_true rfl) 0 rfl (by decide) d_Reader_init_15 (fun q2 H hP hD hS => ?_)
  have hP : va_P (dC, dI) x_cl [(h0, .inr (3, [.ref q1, .null, .int 0, .int 0, .int 0, .int 0, .int 0, .int 0, .null])), (q1, .inl (ar 1, 72, .inl (fun _ => 0))), (q2, .inl (ar 0, 72, .inl (fun _ => 0)))] H := hP
  have hD : va_D A [(h0, .inr (3, [.ref q1, .null, .int 0, .int 0, .int 0, .int 0, .int 0, .int 0, .null])), (q1, .inl (ar 1, 72, .inl (fun _ => 0))), (q2, .inl (ar 0, 72, .inl (fun _ => 0)))] := hD
  refine W.widen (k := 2) (n := 144) (Nat.le_of_ble_eq_true rfl) (Nat.le_of_ble_eq_true rfl) ?_
  refine va_putF (D := (dC, dI)) (ci := 3) (v := .ref q2) (ty := (.array .int)) (C := "ChannelMachine$Reader") (T := F_Reader) (N := 9) hx hb hts i_Reader t_Reader t_Reader_ok n_Reader hown hK hP hD hS 0 rfl rfl 1 (by decide) (hts _ k_44) (fun _ h9 => h9) rfl hin rfl (by decide +kernel) rfl rfl (Nat.le_of_ble_eq_true rfl) d_Reader_init_17 (fun H locs hP hD hS => ?_)
  have hP : va_P (dC, dI) x_cl [(h0, .inr (3, [.ref q1, .ref q2, .int 0, .int 0, .int 0, .int 0, .int 0, .int 0, .null])), (q1, .inl (ar 1, 72, .inl (fun _ => 0))), (q2, .inl (ar 0, 72, .inl (fun _ => 0)))] H := hP
  have hD : va_D A [(h0, .inr (3, [.ref q1, .ref q2, .int 0, .int 0, .int 0, .int 0, .int 0, .int 0, .null])), (q1, .inl (ar 1, 72, .inl (fun _ => 0))), (q2, .inl (ar 0, 72, .inl (fun _ => 0)))] := hD
  refine lv_aload_n hx hb d_Reader_init_20 rfl (lv_at hl 0 rfl) ?_
  refine lv_iconst (v := 0) hx hb d_Reader_init_21 (by decide) ?_
  refine va_put (D := (dC, dI)) (ci := 3) (v := .int 0) (ty := .int) (C := "ChannelMachine$Reader") (T := F_Reader) (N := 9) hx hb hts i_Reader t_Reader t_Reader_ok n_Reader hown hK hP hD hS 0 rfl rfl 2 (by decide) (hts _ k_45) (fun _ h9 => h9) rfl (by decide +kernel) rfl rfl (Nat.le_of_ble_eq_true rfl) d_Reader_init_22 (fun H locs hP hD hS => ?_)
  have hP : va_P (dC, dI) x_cl [(h0, .inr (3, [.ref q1, .ref q2, .int 0, .int 0, .int 0, .int 0, .int 0, .int 0, .null])), (q1, .inl (ar 1, 72, .inl (fun _ => 0))), (q2, .inl (ar 0, 72, .inl (fun _ => 0)))] H := hP
  have hD : va_D A [(h0, .inr (3, [.ref q1, .ref q2, .int 0, .int 0, .int 0, .int 0, .int 0, .int 0, .null])), (q1, .inl (ar 1, 72, .inl (fun _ => 0))), (q2, .inl (ar 0, 72, .inl (fun _ => 0)))] := hD
  refine lv_aload_n hx hb d_Reader_init_25 rfl (lv_at hl 0 rfl) ?_
  refine lv_iconst (v := 0) hx hb d_Reader_init_26 (by decide) ?_
  refine va_put (D := (dC, dI)) (ci := 3) (v := .int 0) (ty := .int) (C := "ChannelMachine$Reader") (T := F_Reader) (N := 9) hx hb hts i_Reader t_Reader t_Reader_ok n_Reader hown hK hP hD hS 0 rfl rfl 3 (by decide) (hts _ k_47) (fun _ h9 => h9) rfl (by decide +kernel) rfl rfl (Nat.le_of_ble_eq_true rfl) d_Reader_init_27 (fun H locs hP hD hS => ?_)
  have hP : va_P (dC, dI) x_cl [(h0, .inr (3, [.ref q1, .ref q2, .int 0, .int 0, .int 0, .int 0, .int 0, .int 0, .null])), (q1, .inl (ar 1, 72, .inl (fun _ => 0))), (q2, .inl (ar 0, 72, .inl (fun _ => 0)))] H := hP
  have hD : va_D A [(h0, .inr (3, [.ref q1, .ref q2, .int 0, .int 0, .int 0, .int 0, .int 0, .int 0, .null])), (q1, .inl (ar 1, 72, .inl (fun _ => 0))), (q2, .inl (ar 0, 72, .inl (fun _ => 0)))] := hD
  refine lv_aload_n hx hb d_Reader_init_30 rfl (lv_at hl 0 rfl) ?_
  refine lv_iconst (v := 0) hx hb d_Reader_init_31 (by decide) ?_
  refine va_put (D := (dC, dI)) (ci := 3) (v := .int 0) (ty := .int) (C := "ChannelMachine$Reader") (T := F_Reader) (N := 9) hx hb hts i_Reader t_Reader t_Reader_ok n_Reader hown hK hP hD hS 0 rfl rfl 4 (by decide) (hts _ k_48) (fun _ h9 => h9) rfl (by decide +kernel) rfl rfl (Nat.le_of_ble_eq_true rfl) d_Reader_init_32 (fun H locs hP hD hS => ?_)
  have hP : va_P (dC, dI) x_cl [(h0, .inr (3, [.ref q1, .ref q2, .int 0, .int 0, .int 0, .int 0, .int 0, .int 0, .null])), (q1, .inl (ar 1, 72, .inl (fun _ => 0))), (q2, .inl (ar 0, 72, .inl (fun _ => 0)))] H := hP
  have hD : va_D A [(h0, .inr (3, [.ref q1, .ref q2, .int 0, .int 0, .int 0, .int 0, .int 0, .int 0, .null])), (q1, .inl (ar 1, 72, .inl (fun _ => 0))), (q2, .inl (ar 0, 72, .inl (fun _ => 0)))] := hD
  refine lv_aload_n hx hb d_Reader_init_35 rfl (lv_at hl 0 rfl) ?_
  refine lv_iconst (v := 0) hx hb d_Reader_init_36 (by decide) ?_
  refine va_put (D := (dC, dI)) (ci := 3) (v := .int 0) (ty := .int) (C := "ChannelMachine$Reader") (T := F_Reader) (N := 9) hx hb hts i_Reader t_Reader t_Reader_ok n_Reader hown hK hP hD hS 0 rfl rfl 5 (by decide) (hts _ k_49) (fun _ h9 => h9) rfl (by decide +kernel) rfl rfl (Nat.le_of_ble_eq_true rfl) d_Reader_init_37 (fun H locs hP hD hS => ?_)
  have hP : va_P (dC, dI) x_cl [(h0, .inr (3, [.ref q1, .ref q2, .int 0, .int 0, .int 0, .int 0, .int 0, .int 0, .null])), (q1, .inl (ar 1, 72, .inl (fun _ => 0))), (q2, .inl (ar 0, 72, .inl (fun _ => 0)))] H := hP
  have hD : va_D A [(h0, .inr (3, [.ref q1, .ref q2, .int 0, .int 0, .int 0, .int 0, .int 0, .int 0, .null])), (q1, .inl (ar 1, 72, .inl (fun _ => 0))), (q2, .inl (ar 0, 72, .inl (fun _ => 0)))] := hD
  refine lv_aload_n hx hb d_Reader_init_40 rfl (lv_at hl 0 rfl) ?_
  refine lv_iconst (v := 0) hx hb d_Reader_init_41 (by decide) ?_
  refine va_put (D := (dC, dI)) (ci := 3) (v := .int 0) (ty := .int) (C := "ChannelMachine$Reader") (T := F_Reader) (N := 9) hx hb hts i_Reader t_Reader t_Reader_ok n_Reader hown hK hP hD hS 0 rfl rfl 6 (by decide) (hts _ k_50) (fun _ h9 => h9) rfl (by decide +kernel) rfl rfl (Nat.le_of_ble_eq_true rfl) d_Reader_init_42 (fun H locs hP hD hS => ?_)
  have hP : va_P (dC, dI) x_cl [(h0, .inr (3, [.ref q1, .ref q2, .int 0, .int 0, .int 0, .int 0, .int 0, .int 0, .null])), (q1, .inl (ar 1, 72, .inl (fun _ => 0))), (q2, .inl (ar 0, 72, .inl (fun _ => 0)))] H := hP
  have hD : va_D A [(h0, .inr (3, [.ref q1, .ref q2, .int 0, .int 0, .int 0, .int 0, .int 0, .int 0, .null])), (q1, .inl (ar 1, 72, .inl (fun _ => 0))), (q2, .inl (ar 0, 72, .inl (fun _ => 0)))] := hD
  refine lv_aload_n hx hb d_Reader_init_45 rfl (lv_at hl 0 rfl) ?_
  refine lv_iconst (v := 0) hx hb d_Reader_init_46 (by decide) ?_
  refine va_put (D := (dC, dI)) (ci := 3) (v := .int 0) (ty := .int) (C := "ChannelMachine$Reader") (T := F_Reader) (N := 9) hx hb hts i_Reader t_Reader t_Reader_ok n_Reader hown hK hP hD hS 0 rfl rfl 7 (by decide) (hts _ k_52) (fun _ h9 => h9) rfl (by decide +kernel) rfl rfl (Nat.le_of_ble_eq_true rfl) d_Reader_init_47 (fun H locs hP hD hS => ?_)
  have hP : va_P (dC, dI) x_cl [(h0, .inr (3, [.ref q1, .ref q2, .int 0, .int 0, .int 0, .int 0, .int 0, .int 0, .null])), (q1, .inl (ar 1, 72, .inl (fun _ => 0))), (q2, .inl (ar 0, 72, .inl (fun _ => 0)))] H := hP
  have hD : va_D A [(h0, .inr (3, [.ref q1, .ref q2, .int 0, .int 0, .int 0, .int 0, .int 0, .int 0, .null])), (q1, .inl (ar 1, 72, .inl (fun _ => 0))), (q2, .inl (ar 0, 72, .inl (fun _ => 0)))] := hD
  refine lv_aload_n hx hb d_Reader_init_50 rfl (lv_at hl 0 rfl) ?_
  refine lv_null hx hb d_Reader_init_51 ?_
  refine va_put (D := (dC, dI)) (ci := 3) (v := .null) (ty := (.object "ChannelMachine$Process")) (C := "ChannelMachine$Reader") (T := F_Reader) (N := 9) hx hb hts i_Reader t_Reader t_Reader_ok n_Reader hown hK hP hD hS 0 rfl rfl 8 (by decide) (hts _ k_54) (fun _ h9 => h9) rfl (by decide +kernel) rfl rfl (Nat.le_of_ble_eq_true rfl) d_Reader_init_52 (fun H locs hP hD hS => ?_)
  have hP : va_P (dC, dI) x_cl [(h0, .inr (3, [.ref q1, .ref q2, .int 0, .int 0, .int 0, .int 0, .int 0, .int 0, .null])), (q1, .inl (ar 1, 72, .inl (fun _ => 0))), (q2, .inl (ar 0, 72, .inl (fun _ => 0)))] H := hP
  have hD : va_D A [(h0, .inr (3, [.ref q1, .ref q2, .int 0, .int 0, .int 0, .int 0, .int 0, .int 0, .null])), (q1, .inl (ar 1, 72, .inl (fun _ => 0))), (q2, .inl (ar 0, 72, .inl (fun _ => 0)))] := hD
  exact W.vret hx hb hr (fun t ht hW => ⟨⟨(), rfl, trivial, q1, q2, by rw [ht]; exact hP, hD⟩, hS.F ht⟩) hS.2.2 d_Reader_init_55
set_option maxHeartbeats 4000000 in
set_option maxRecDepth 100000 in
theorem c_AbstractCollection_init (l : Launch) (dC : Nat → ClassId) (dI : Nat → Nat → Nat) (ar : Nat → ClassId) (N0 : Nat) (z : Nat → Nat) (h0 : Nat) (sz : Nat) : Met l ({ cls := "java/util/AbstractCollection", name := "<init>", desc := "()V" } : Jvm.MethodName) ((Jvm.Cond.code ({ cls := "java/util/AbstractCollection", name := "<init>", desc := "()V" } : Jvm.MethodName) prog_26_method_1_code (1 : Nat) (Option.none : Option Jvm.ClassFile.FieldType)) :: x_T) ({ frames := 1, cells := 0, slots := 0, locals := 14 }) (x_Pc (dC, dI) ar N0 z [(h0, .inr (0, [.null, .int 0, .int 0]))] sz [.ref h0]) (va_Qv (fun _ : Unit => True) (fun _ t => va_P (dC, dI) x_cl [(h0, .inr (0, [.null, .int 0, .int 0]))] t.heap ∧ va_D (va_A [(h0, .inr (0, [.null, .int 0, .int 0]))] sz) [(h0, .inr (0, [.null, .int 0, .int 0]))]) (va_A [(h0, .inr (0, [.null, .int 0, .int 0]))] sz)) 0 0 (va_A [(h0, .inr (0, [.null, .int 0, .int 0]))] sz) := by
  refine Met.ofW (cc := prog_26_method_1_code) (maxL := 1) (ret := none) (by decide) rfl ?_
  intro p e s m args below meth c s₁ B hml hv
  obtain ⟨rfl, hsz, hN0, hP, hU, hZ, hD0⟩ := hv
  have hK := hU.1
  have hx := B.exec
  have hb := B.bytes
  have hr := B.returns
  have hts : ∀ w ∈ x_T, w.before ([.ref h0] : List Value).toArray s = true := fun w h => atoms_spec (ws := (Jvm.Cond.code ({ cls := "java/util/AbstractCollection", name := "<init>", desc := "()V" } : Jvm.MethodName) prog_26_method_1_code (1 : Nat) (Option.none : Option Jvm.ClassFile.FieldType)) :: x_T) B.pre w (List.mem_cons_of_mem _ h)
  have hown : s.vm.findClass "java/util/AbstractCollection" = some m.cls := findClass_of_methodNamed B.named
  have hlocks := B.notSynchronized
  have hin : meth.name = "<init>" := (name_of_methodNamed B.named B.method).1
  subst hsz
  have hD := hD0.self (sz := s.heap.size)
  have hAN := x_AN hD0 hN0
  generalize hAe : va_A [(h0, .inr (0, [.null, .int 0, .int 0]))] s.heap.size = A at hD hAN ⊢
  have hA : ∀ q : Nat, s.heap.size ≤ q → A q := fun q h => by rw [← hAe]; exact Or.inr h
  have hS : va_S A s.heap s.heap [] := va_S.rf
  have hP : va_P (dC, dI) x_cl [(h0, .inr (0, [.null, .int 0, .int 0]))] s.heap := hP
  have hl := lv_entry ([.ref h0]) (n := 1) (Nat.le_of_ble_eq_true rfl)
  rw [lg_entry_eq]
  generalize (lg_sl ([.ref h0]) ++ List.replicate (1 - (lg_sl ([.ref h0])).length) Slot.unset).toArray = ls at hl ⊢
  have hl : lv_has ls 1 [(0, .ref h0)] := hl
  have hH0 : s.heap.size ≤ s.heap.size := Nat.le_refl _
  refine lv_aload_n hx hb d_AbstractCollection_init_0 rfl (lv_at hl 0 rfl) ?_
  refine W.objInit hx hb hown (hts _ k_111) (hts _ k_35) (hts _ k_36) rfl (by rw [hml]; exact hl.1) rfl d_AbstractCollection_init_1 (Nat.le_of_ble_eq_true rfl) (Nat.le_of_ble_eq_true rfl) ?_
  refine W.eq (g2 := F0 m 4 ls []) rfl ?_
  exact W.vret hx hb hr (fun t ht hW => ⟨⟨(), rfl, trivial, by rw [ht]; exact hP, hD⟩, hS.F ht⟩) hS.2.2 d_AbstractCollection_init_4
set_option maxHeartbeats 4000000 in
set_option maxRecDepth 100000 in
theorem c_AbstractList_init (l : Launch) (dC : Nat → ClassId) (dI : Nat → Nat → Nat) (ar : Nat → ClassId) (N0 : Nat) (z : Nat → Nat) (h0 : Nat) (sz : Nat) : Met l ({ cls := "java/util/AbstractList", name := "<init>", desc := "()V" } : Jvm.MethodName) ((Jvm.Cond.code ({ cls := "java/util/AbstractList", name := "<init>", desc := "()V" } : Jvm.MethodName) prog_27_method_1_code (1 : Nat) (Option.none : Option Jvm.ClassFile.FieldType)) :: x_T) ({ frames := 2, cells := 0, slots := 0, locals := 34 }) (x_Pc (dC, dI) ar N0 z [(h0, .inr (0, [.null, .int 0, .int 0]))] sz [.ref h0]) (va_Qv (fun _ : Unit => True) (fun _ t => va_P (dC, dI) x_cl [(h0, .inr (0, [.null, .int 0, .int 0]))] t.heap ∧ va_D (va_A [(h0, .inr (0, [.null, .int 0, .int 0]))] sz) [(h0, .inr (0, [.null, .int 0, .int 0]))]) (va_A [(h0, .inr (0, [.null, .int 0, .int 0]))] sz)) 0 0 (va_A [(h0, .inr (0, [.null, .int 0, .int 0]))] sz) := by
  refine Met.ofW (cc := prog_27_method_1_code) (maxL := 1) (ret := none) (by decide) rfl ?_
  intro p e s m args below meth c s₁ B hml hv
  obtain ⟨rfl, hsz, hN0, hP, hU, hZ, hD0⟩ := hv
  have hK := hU.1
  have hx := B.exec
  have hb := B.bytes
  have hr := B.returns
  have hts : ∀ w ∈ x_T, w.before ([.ref h0] : List Value).toArray s = true := fun w h => atoms_spec (ws := (Jvm.Cond.code ({ cls := "java/util/AbstractList", name := "<init>", desc := "()V" } : Jvm.MethodName) prog_27_method_1_code (1 : Nat) (Option.none : Option Jvm.ClassFile.FieldType)) :: x_T) B.pre w (List.mem_cons_of_mem _ h)
  have hown : s.vm.findClass "java/util/AbstractList" = some m.cls := findClass_of_methodNamed B.named
  have hlocks := B.notSynchronized
  have hin : meth.name = "<init>" := (name_of_methodNamed B.named B.method).1
  subst hsz
  have hD := hD0.self (sz := s.heap.size)
  have hAN := x_AN hD0 hN0
  generalize hAe : va_A [(h0, .inr (0, [.null, .int 0, .int 0]))] s.heap.size = A at hD hAN ⊢
  have hA : ∀ q : Nat, s.heap.size ≤ q → A q := fun q h => by rw [← hAe]; exact Or.inr h
  have hS : va_S A s.heap s.heap [] := va_S.rf
  have hP : va_P (dC, dI) x_cl [(h0, .inr (0, [.null, .int 0, .int 0]))] s.heap := hP
  have hl := lv_entry ([.ref h0]) (n := 1) (Nat.le_of_ble_eq_true rfl)
  rw [lg_entry_eq]
  generalize (lg_sl ([.ref h0]) ++ List.replicate (1 - (lg_sl ([.ref h0])).length) Slot.unset).toArray = ls at hl ⊢
  have hl : lv_has ls 1 [(0, .ref h0)] := hl
  have hH0 : s.heap.size ≤ s.heap.size := Nat.le_refl _
  refine lv_aload_n hx hb d_AbstractList_init_0 rfl (lv_at hl 0 rfl) ?_
  have hPc := hP.sub (ws' := [(h0, .inr (0, [.null, .int 0, .int 0]))]) [0] rfl
  have hDc := hD.sub (ws' := [(h0, .inr (0, [.null, .int 0, .int 0]))]) [0] (by decide) rfl
  have hFc := va_free (wc := [(h0, .inr (0, [.null, .int 0, .int 0]))]) hD hS hA [0] rfl
  refine va_callv (va_runI (As := []) (rest := []) ⟨hx, hb, hml, hown, hts⟩ (c_AbstractCollection_init l dC dI ar N0 z h0 s.heap.size) (cwI 0 hts (x_good k_110) rfl rfl rfl (hts _ k_5) (hts _ k_108) (hts _ k_109) rfl (by decide +kernel) ⟨Nat.le_of_ble_eq_true rfl, Nat.le_of_ble_eq_true rfl⟩) ⟨x_blind, fun U hU9 hW => x_pre hU9 hW hPc hDc hU hZ hS hAN hN0⟩ rfl rfl hl.1 rfl (lv_room (Nat.le_of_ble_eq_true rfl)) d_AbstractList_init_1 ⟨Nat.le_of_ble_eq_true rfl, Nat.le_of_ble_eq_true rfl⟩) hS (fun q _ h => hFc q h) hFc (fun u t H1 locs ht hvm hw hB hz1 hk1 hS => ?_)
  obtain ⟨hP1, hD1⟩ := hB
  rw [ht] at hP1
  obtain ⟨hP, hD⟩ := va_join (wr := []) (w1 := [(h0, .inr (0, [.null, .int 0, .int 0]))]) hP hD [0] [] rfl rfl (by decide) (by decide) hk1 hFc hP1 hD1
  generalize H1 = H at hP hS ⊢
  have hP : va_P (dC, dI) x_cl [(h0, .inr (0, [.null, .int 0, .int 0]))] H := hP
  have hD : va_D A [(h0, .inr (0, [.null, .int 0, .int 0]))] := hD
  refine W.widen (k := 0) (n := 0) (Nat.le_of_ble_eq_true rfl) (Nat.le_of_ble_eq_true rfl) ?_
  refine lv_aload_n hx hb d_AbstractList_init_4 rfl (lv_at hl 0 rfl) ?_
  refine lv_iconst (v := 0) hx hb d_AbstractList_init_5 (by decide) ?_
  refine va_put (D := (dC, dI)) (ci := 0) (v := .int 0) (ty := .int) (C := "java/util/ArrayList") (T := F_List) (N := 3) hx hb hts i_List t_List t_List_ok n_List hown hK hP hD hS 0 rfl rfl 2 (by decide) (hts _ k_116) (fun _ h9 => h9) rfl (by decide +kernel) rfl rfl (Nat.le_of_ble_eq_true rfl) d_AbstractList_init_6 (fun H locs hP hD hS => ?_)
  have hP : va_P (dC, dI) x_cl [(h0, .inr (0, [.null, .int 0, .int 0]))] H := hP
  have hD : va_D A [(h0, .inr (0, [.null, .int 0, .int 0]))] := hD
  exact W.vret hx hb hr (fun t ht hW => ⟨⟨(), rfl, trivial, by rw [ht]; exact hP, hD⟩, hS.F ht⟩) hS.2.2 d_AbstractList_init_9
set_option maxHeartbeats 4000000 in
set_option maxRecDepth 100000 in
theorem c_ArrayList_init (l : Launch) (dC : Nat → ClassId) (dI : Nat → Nat → Nat) (ar : Nat → ClassId) (N0 : Nat) (z : Nat → Nat) (h0 : Nat) (sz : Nat) : Met l ({ cls := "java/util/ArrayList", name := "<init>", desc := "()V" } : Jvm.MethodName) ((Jvm.Cond.code ({ cls := "java/util/ArrayList", name := "<init>", desc := "()V" } : Jvm.MethodName) prog_28_method_2_code (1 : Nat) (Option.none : Option Jvm.ClassFile.FieldType)) :: x_T) ({ frames := 3, cells := 0, slots := 0, locals := 54 }) (x_Pc (dC, dI) ar N0 z [(h0, .inr (0, [.null, .int 0, .int 0]))] sz [.ref h0]) (va_Qv (fun _ : Unit => True) (fun _ t => va_P (dC, dI) x_cl [(h0, .inr (0, [.ref (z 0), .int 0, .int 0]))] t.heap ∧ va_D (va_A [(h0, .inr (0, [.null, .int 0, .int 0]))] sz) [(h0, .inr (0, [.ref (z 0), .int 0, .int 0]))]) (va_A [(h0, .inr (0, [.null, .int 0, .int 0]))] sz)) 0 0 (va_A [(h0, .inr (0, [.null, .int 0, .int 0]))] sz) := by
  refine Met.ofW (cc := prog_28_method_2_code) (maxL := 1) (ret := none) (by decide) rfl ?_
  intro p e s m args below meth c s₁ B hml hv
  obtain ⟨rfl, hsz, hN0, hP, hU, hZ, hD0⟩ := hv
  have hK := hU.1
  have hx := B.exec
  have hb := B.bytes
  have hr := B.returns
  have hts : ∀ w ∈ x_T, w.before ([.ref h0] : List Value).toArray s = true := fun w h => atoms_spec (ws := (Jvm.Cond.code ({ cls := "java/util/ArrayList", name := "<init>", desc := "()V" } : Jvm.MethodName) prog_28_method_2_code (1 : Nat) (Option.none : Option Jvm.ClassFile.FieldType)) :: x_T) B.pre w (List.mem_cons_of_mem _ h)
  have hown : s.vm.findClass "java/util/ArrayList" = some m.cls := findClass_of_methodNamed B.named
  have hlocks := B.notSynchronized
  have hin : meth.name = "<init>" := (name_of_methodNamed B.named B.method).1
  subst hsz
  have hD := hD0.self (sz := s.heap.size)
  have hAN := x_AN hD0 hN0
  generalize hAe : va_A [(h0, .inr (0, [.null, .int 0, .int 0]))] s.heap.size = A at hD hAN ⊢
  have hA : ∀ q : Nat, s.heap.size ≤ q → A q := fun q h => by rw [← hAe]; exact Or.inr h
  have hS : va_S A s.heap s.heap [] := va_S.rf
  have hP : va_P (dC, dI) x_cl [(h0, .inr (0, [.null, .int 0, .int 0]))] s.heap := hP
  have hl := lv_entry ([.ref h0]) (n := 1) (Nat.le_of_ble_eq_true rfl)
  rw [lg_entry_eq]
  generalize (lg_sl ([.ref h0]) ++ List.replicate (1 - (lg_sl ([.ref h0])).length) Slot.unset).toArray = ls at hl ⊢
  have hl : lv_has ls 1 [(0, .ref h0)] := hl
  have hH0 : s.heap.size ≤ s.heap.size := Nat.le_refl _
  refine lv_aload_n hx hb d_ArrayList_init_0 rfl (lv_at hl 0 rfl) ?_
  have hPc := hP.sub (ws' := [(h0, .inr (0, [.null, .int 0, .int 0]))]) [0] rfl
  have hDc := hD.sub (ws' := [(h0, .inr (0, [.null, .int 0, .int 0]))]) [0] (by decide) rfl
  have hFc := va_free (wc := [(h0, .inr (0, [.null, .int 0, .int 0]))]) hD hS hA [0] rfl
  refine va_callv (va_runI (As := []) (rest := []) ⟨hx, hb, hml, hown, hts⟩ (c_AbstractList_init l dC dI ar N0 z h0 s.heap.size) (cwI 0 hts (x_good k_107) rfl rfl rfl (hts _ k_6) (hts _ k_105) (hts _ k_106) rfl (by decide +kernel) ⟨Nat.le_of_ble_eq_true rfl, Nat.le_of_ble_eq_true rfl⟩) ⟨x_blind, fun U hU9 hW => x_pre hU9 hW hPc hDc hU hZ hS hAN hN0⟩ rfl rfl hl.1 rfl (lv_room (Nat.le_of_ble_eq_true rfl)) d_ArrayList_init_1 ⟨Nat.le_of_ble_eq_true rfl, Nat.le_of_ble_eq_true rfl⟩) hS (fun q _ h => hFc q h) hFc (fun u t H1 locs ht hvm hw hB hz1 hk1 hS => ?_)
  obtain ⟨hP1, hD1⟩ := hB
  rw [ht] at hP1
  obtain ⟨hP, hD⟩ := va_join (wr := []) (w1 := [(h0, .inr (0, [.null, .int 0, .int 0]))]) hP hD [0] [] rfl rfl (by decide) (by decide) hk1 hFc hP1 hD1
  generalize H1 = H at hP hS ⊢
  have hP : va_P (dC, dI) x_cl [(h0, .inr (0, [.null, .int 0, .int 0]))] H := hP
  have hD : va_D A [(h0, .inr (0, [.null, .int 0, .int 0]))] := hD
  refine W.widen (k := 0) (n := 0) (Nat.le_of_ble_eq_true rfl) (Nat.le_of_ble_eq_true rfl) ?_
  refine lv_aload_n hx hb d_ArrayList_init_4 rfl (lv_at hl 0 rfl) ?_
  refine va_gets hx hb (hZ.1.narrow hAN) hS hown (hts _ k_112) (fun _ h9 => h9) d_ArrayList_init_5 ?_
  refine va_put (D := (dC, dI)) (ci := 0) (v := .ref (z 0)) (ty := (.array (.object "java/lang/Object"))) (C := "java/util/ArrayList") (T := F_List) (N := 3) hx hb hts i_List t_List t_List_ok n_List hown hK hP hD hS 0 rfl rfl 0 (by decide) (hts _ k_114) (fun _ h9 => h9) rfl (by decide +kernel) rfl rfl (Nat.le_of_ble_eq_true rfl) d_ArrayList_init_8 (fun H locs hP hD hS => ?_)
  have hP : va_P (dC, dI) x_cl [(h0, .inr (0, [.ref (z 0), .int 0, .int 0]))] H := hP
  have hD : va_D A [(h0, .inr (0, [.ref (z 0), .int 0, .int 0]))] := hD
  exact W.vret hx hb hr (fun t ht hW => ⟨⟨(), rfl, trivial, by rw [ht]; exact hP, hD⟩, hS.F ht⟩) hS.2.2 d_ArrayList_init_11
set_option maxHeartbeats 4000000 in
set_option maxRecDepth 100000 in
theorem c_Machine_init (l : Launch) (dC : Nat → ClassId) (dI : Nat → Nat → Nat) (ar : Nat → ClassId) (N0 : Nat) (z : Nat → Nat) (h0 : Nat) (sz : Nat) : Met l ({ cls := "ChannelMachine$Machine", name := "<init>", desc := "()V" } : Jvm.MethodName) ((Jvm.Cond.code ({ cls := "ChannelMachine$Machine", name := "<init>", desc := "()V" } : Jvm.MethodName) prog_6_method_1_code (2 : Nat) (Option.none : Option Jvm.ClassFile.FieldType)) :: x_T) ({ frames := 4, cells := 15, slots := 134, locals := 74 }) (x_Pc (dC, dI) ar N0 z [(h0, .inr (2, [.null, .null, .null, .null, .null, .null, .null, .int 0, .int 0, .int 0, .long 0]))] sz [.ref h0]) (va_Qv (fun _ : Unit => True) (fun _ t => ∃ (q1 : Nat) (q2 : Nat) (q3 : Nat) (q4 : Nat) (q5 : Nat) (q6 : Nat) (q7 : Nat) (q8 : Nat) (q9 : Nat) (q11 : Nat) (q13 : Nat) (q15 : Nat) (q17 : Nat) (q19 : Nat) (q21 : Nat), va_P (dC, dI) x_cl [(h0, .inr (2, [.ref q1, .ref q2, .ref q3, .ref q5, .ref q7, .ref q8, .ref q9, .int 0, .int 0, .int 0, .long 0])), (q1, .inl (ar 0, 6, .inl (fun _ => 0))), (q2, .inl (ar 4, 6, .inr (.inr (.inr (.inr (va_up (va_up (va_up (va_up (va_up (va_up (fun _ => none) (Int32.toNatClampNeg 0) (some q11)) (Int32.toNatClampNeg 1) (some q13)) (Int32.toNatClampNeg 2) (some q15)) (Int32.toNatClampNeg 3) (some q17)) (Int32.toNatClampNeg 4) (some q19)) (Int32.toNatClampNeg 5) (some q21))))))), (q3, .inr (4, [.ref q4, .int 0])), (q4, .inl (ar 0, 8, .inl (fun _ => 0))), (q5, .inr (4, [.ref q6, .int 0])), (q6, .inl (ar 0, 8, .inl (fun _ => 0))), (q7, .inr (0, [.ref (z 0), .int 0, .int 0])), (q8, .inr (0, [.ref (z 0), .int 0, .int 0])), (q9, .inl (ar 0, 72, .inl (fun _ => 0))), (q11, .inr (1, [.null, .null, .int (-1), .null])), (q13, .inr (1, [.null, .null, .int (-1), .null])), (q15, .inr (1, [.null, .null, .int (-1), .null])), (q17, .inr (1, [.null, .null, .int (-1), .null])), (q19, .inr (1, [.null, .null, .int (-1), .null])), (q21, .inr (1, [.null, .null, .int (-1), .null]))] t.heap ∧ va_D (va_A [(h0, .inr (2, [.null, .null, .null, .null, .null, .null, .null, .int 0, .int 0, .int 0, .long 0]))] sz) [(h0, .inr (2, [.ref q1, .ref q2, .ref q3, .ref q5, .ref q7, .ref q8, .ref q9, .int 0, .int 0, .int 0, .long 0])), (q1, .inl (ar 0, 6, .inl (fun _ => 0))), (q2, .inl (ar 4, 6, .inr (.inr (.inr (.inr (va_up (va_up (va_up (va_up (va_up (va_up (fun _ => none) (Int32.toNatClampNeg 0) (some q11)) (Int32.toNatClampNeg 1) (some q13)) (Int32.toNatClampNeg 2) (some q15)) (Int32.toNatClampNeg 3) (some q17)) (Int32.toNatClampNeg 4) (some q19)) (Int32.toNatClampNeg 5) (some q21))))))), (q3, .inr (4, [.ref q4, .int 0])), (q4, .inl (ar 0, 8, .inl (fun _ => 0))), (q5, .inr (4, [.ref q6, .int 0])), (q6, .inl (ar 0, 8, .inl (fun _ => 0))), (q7, .inr (0, [.ref (z 0), .int 0, .int 0])), (q8, .inr (0, [.ref (z 0), .int 0, .int 0])), (q9, .inl (ar 0, 72, .inl (fun _ => 0))), (q11, .inr (1, [.null, .null, .int (-1), .null])), (q13, .inr (1, [.null, .null, .int (-1), .null])), (q15, .inr (1, [.null, .null, .int (-1), .null])), (q17, .inr (1, [.null, .null, .int (-1), .null])), (q19, .inr (1, [.null, .null, .int (-1), .null])), (q21, .inr (1, [.null, .null, .int (-1), .null]))]) (va_A [(h0, .inr (2, [.null, .null, .null, .null, .null, .null, .null, .int 0, .int 0, .int 0, .long 0]))] sz)) 15 134 (va_A [(h0, .inr (2, [.null, .null, .null, .null, .null, .null, .null, .int 0, .int 0, .int 0, .long 0]))] sz) := by
  refine Met.ofW (cc := prog_6_method_1_code) (maxL := 2) (ret := none) (by decide) rfl ?_
  intro p e s m args below meth c s₁ B hml hv
  obtain ⟨rfl, hsz, hN0, hP, hU, hZ, hD0⟩ := hv
  have hK := hU.1
  have hx := B.exec
  have hb := B.bytes
  have hr := B.returns
  have hts : ∀ w ∈ x_T, w.before ([.ref h0] : List Value).toArray s = true := fun w h => atoms_spec (ws := (Jvm.Cond.code ({ cls := "ChannelMachine$Machine", name := "<init>", desc := "()V" } : Jvm.MethodName) prog_6_method_1_code (2 : Nat) (Option.none : Option Jvm.ClassFile.FieldType)) :: x_T) B.pre w (List.mem_cons_of_mem _ h)
  have hown : s.vm.findClass "ChannelMachine$Machine" = some m.cls := findClass_of_methodNamed B.named
  have hlocks := B.notSynchronized
  have hin : meth.name = "<init>" := (name_of_methodNamed B.named B.method).1
  subst hsz
  have hD := hD0.self (sz := s.heap.size)
  have hAN := x_AN hD0 hN0
  generalize hAe : va_A [(h0, .inr (2, [.null, .null, .null, .null, .null, .null, .null, .int 0, .int 0, .int 0, .long 0]))] s.heap.size = A at hD hAN ⊢
  have hA : ∀ q : Nat, s.heap.size ≤ q → A q := fun q h => by rw [← hAe]; exact Or.inr h
  have hS : va_S A s.heap s.heap [] := va_S.rf
  have hP : va_P (dC, dI) x_cl [(h0, .inr (2, [.null, .null, .null, .null, .null, .null, .null, .int 0, .int 0, .int 0, .long 0]))] s.heap := hP
  have hl := lv_entry ([.ref h0]) (n := 2) (Nat.le_of_ble_eq_true rfl)
  rw [lg_entry_eq]
  generalize (lg_sl ([.ref h0]) ++ List.replicate (2 - (lg_sl ([.ref h0])).length) Slot.unset).toArray = ls at hl ⊢
  have hl : lv_has ls 2 [(0, .ref h0)] := hl
  have hH0 : s.heap.size ≤ s.heap.size := Nat.le_refl _
  refine lv_aload_n hx hb d_Machine_init_0 rfl (lv_at hl 0 rfl) ?_
  refine W.objInit hx hb hown (hts _ k_82) (hts _ k_35) (hts _ k_36) rfl (by rw [hml]; exact hl.1) rfl d_Machine_init_1 (Nat.le_of_ble_eq_true rfl) (Nat.le_of_ble_eq_true rfl) ?_
  refine W.eq (g2 := F0 m 4 ls []) rfl ?_
  refine lv_aload_n hx hb d_Machine_init_4 rfl (lv_at hl 0 rfl) ?_
  refine lv_bipush (v := 6) hx hb d_Machine_init_5 (by decide) ?_
  refine x_newa (D := (dC, dI)) (ar := ar) (atype := .int) hx hb (hts _ k_76) (ty := .int) rfl hK hP hD hS hA (N' := 6) (a0 := (6, .inl (fun _ => 0))) (fun _ => rfl) (by decide) (by decide) (by decide) (Nat.le_of_ble_eq_true rfl) (Nat.le_of_ble_eq_true rfl) 0 rfl (by decide) d_Machine_init_7 (fun q1 H hP hD hS => ?_)
  have hP : va_P (dC, dI) x_cl [(h0, .inr (2, [.null, .null, .null, .null, .null, .null, .null, .int 0, .int 0, .int 0, .long 0])), (q1, .inl (ar 0, 6, .inl (fun _ => 0)))] H := hP
  have hD : va_D A [(h0, .inr (2, [.null, .null, .null, .null, .null, .null, .null, .int 0, .int 0, .int 0, .long 0])), (q1, .inl (ar 0, 6, .inl (fun _ => 0)))] := hD
  refine W.widen (k := 1) (n := 6) (Nat.le_of_ble_eq_true rfl) (Nat.le_of_ble_eq_true rfl) ?_
  refine va_putF (D := (dC, dI)) (ci := 2) (v := .ref q1) (ty := (.array .int)) (C := "ChannelMachine$Machine") (T := F_Machine) (N := 11) hx hb hts i_Machine t_Machine t_Machine_ok n_Machine hown hK hP hD hS 0 rfl rfl 0 (by decide) (hts _ k_150) (fun _ h9 => h9) rfl hin rfl (by decide +kernel) rfl rfl (Nat.le_of_ble_eq_true rfl) d_Machine_init_9 (fun H locs hP hD hS => ?_)
  have hP : va_P (dC, dI) x_cl [(h0, .inr (2, [.ref q1, .null, .null, .null, .null, .null, .null, .int 0, .int 0, .int 0, .long 0])), (q1, .inl (ar 0, 6, .inl (fun _ => 0)))] H := hP
  have hD : va_D A [(h0, .inr (2, [.ref q1, .null, .null, .null, .null, .null, .null, .int 0, .int 0, .int 0, .long 0])), (q1, .inl (ar 0, 6, .inl (fun _ => 0)))] := hD
  refine lv_aload_n hx hb d_Machine_init_12 rfl (lv_at hl 0 rfl) ?_
  refine lv_bipush (v := 6) hx hb d_Machine_init_13 (by decide) ?_
  refine x_newq (D := (dC, dI)) (ar := ar) hx hb (C := "ChannelMachine$Channel") hown (hts _ k_83) hU.2.2.1 hK hP hD hS hA (N' := 6) (by decide) (by decide) (by decide) (Nat.le_of_ble_eq_true rfl) (Nat.le_of_ble_eq_true rfl) 4 rfl d_Machine_init_15 (fun q2 H hP hD hS => ?_)
  have hP : va_P (dC, dI) x_cl [(h0, .inr (2, [.ref q1, .null, .null, .null, .null, .null, .null, .int 0, .int 0, .int 0, .long 0])), (q1, .inl (ar 0, 6, .inl (fun _ => 0))), (q2, .inl (ar 4, 6, .inr (.inr (.inr (.inr (fun _ => none))))))] H := hP
  have hD : va_D A [(h0, .inr (2, [.ref q1, .null, .null, .null, .null, .null, .null, .int 0, .int 0, .int 0, .long 0])), (q1, .inl (ar 0, 6, .inl (fun _ => 0))), (q2, .inl (ar 4, 6, .inr (.inr (.inr (.inr (fun _ => none))))))] := hD
  refine W.widen (k := 2) (n := 12) (Nat.le_of_ble_eq_true rfl) (Nat.le_of_ble_eq_true rfl) ?_
  refine va_putF (D := (dC, dI)) (ci := 2) (v := .ref q2) (ty := (.array (.object "ChannelMachine$Channel"))) (C := "ChannelMachine$Machine") (T := F_Machine) (N := 11) hx hb hts i_Machine t_Machine t_Machine_ok n_Machine hown hK hP hD hS 0 rfl rfl 1 (by decide) (hts _ k_152) (fun _ h9 => h9) rfl hin rfl (by decide +kernel) rfl rfl (Nat.le_of_ble_eq_true rfl) d_Machine_init_18 (fun H locs hP hD hS => ?_)
  have hP : va_P (dC, dI) x_cl [(h0, .inr (2, [.ref q1, .ref q2, .null, .null, .null, .null, .null, .int 0, .int 0, .int 0, .long 0])), (q1, .inl (ar 0, 6, .inl (fun _ => 0))), (q2, .inl (ar 4, 6, .inr (.inr (.inr (.inr (fun _ => none))))))] H := hP
  have hD : va_D A [(h0, .inr (2, [.ref q1, .ref q2, .null, .null, .null, .null, .null, .int 0, .int 0, .int 0, .long 0])), (q1, .inl (ar 0, 6, .inl (fun _ => 0))), (q2, .inl (ar 4, 6, .inr (.inr (.inr (.inr (fun _ => none))))))] := hD
  refine lv_aload_n hx hb d_Machine_init_21 rfl (lv_at hl 0 rfl) ?_
  refine va_new (ci := 4) (fs := [.null, .int 0]) (C := "ChannelMachine$Row") (T := F_Row) (N := 2) hx hb hts i_Row t_Row t_Row_ok hown (hts _ k_85) (hts _ k_86) (hts _ k_4) hK hP hD hS hA rfl (fun j hj => by rcases (show j = 0 ∨ j = 1 by omega) with rfl | rfl <;> rfl) (Nat.le_of_ble_eq_true rfl) (Nat.le_of_ble_eq_true rfl) d_Machine_init_22 (fun q3 H hP hD hS => ?_)
  have hP : va_P (dC, dI) x_cl [(h0, .inr (2, [.ref q1, .ref q2, .null, .null, .null, .null, .null, .int 0, .int 0, .int 0, .long 0])), (q1, .inl (ar 0, 6, .inl (fun _ => 0))), (q2, .inl (ar 4, 6, .inr (.inr (.inr (.inr (fun _ => none)))))), (q3, .inr (4, [.null, .int 0]))] H := hP
  have hD : va_D A [(h0, .inr (2, [.ref q1, .ref q2, .null, .null, .null, .null, .null, .int 0, .int 0, .int 0, .long 0])), (q1, .inl (ar 0, 6, .inl (fun _ => 0))), (q2, .inl (ar 4, 6, .inr (.inr (.inr (.inr (fun _ => none)))))), (q3, .inr (4, [.null, .int 0]))] := hD
  refine W.widen (k := 3) (n := 14) (Nat.le_of_ble_eq_true rfl) (Nat.le_of_ble_eq_true rfl) ?_
  refine lv_dup hx hb d_Machine_init_25 rfl ?_
  have hPc := hP.sub (ws' := [(q3, .inr (4, [.null, .int 0]))]) [3] rfl
  have hDc := hD.sub (ws' := [(q3, .inr (4, [.null, .int 0]))]) [3] (by decide) rfl
  have hFc := va_free (wc := [(q3, .inr (4, [.null, .int 0]))]) hD hS hA [3] rfl
  refine va_callv (va_runIN (As := []) (rest := [.ref q3, .ref h0]) ⟨hx, hb, hml, hown, hts⟩ (c_Row_init l dC dI ar N0 z q3 H.size) ⟨va_cnB 0 hts (x_good k_89) rfl rfl rfl (hU.2.1 _ kn_87) (hts _ k_4) (by decide +kernel) ⟨Nat.le_of_ble_eq_true rfl, Nat.le_of_ble_eq_true rfl⟩, rfl, hts _ k_88⟩ ⟨x_blind, fun U hU9 hW => x_pre hU9 hW hPc hDc hU hZ hS hAN hN0⟩ rfl rfl hl.1 rfl (lv_room (Nat.le_of_ble_eq_true rfl)) d_Machine_init_26 ⟨Nat.le_of_ble_eq_true rfl, Nat.le_of_ble_eq_true rfl⟩) hS (fun q _ h => hFc q h) hFc (fun u t H1 locs ht hvm hw hB hz1 hk1 hS => ?_)
  obtain ⟨q4, hP1, hD1⟩ := hB
  rw [ht] at hP1
  obtain ⟨hP, hD⟩ := va_join (wr := [(h0, .inr (2, [.ref q1, .ref q2, .null, .null, .null, .null, .null, .int 0, .int 0, .int 0, .long 0])), (q1, .inl (ar 0, 6, .inl (fun _ => 0))), (q2, .inl (ar 4, 6, .inr (.inr (.inr (.inr (fun _ => none))))))]) (w1 := [(q3, .inr (4, [.ref q4, .int 0])), (q4, .inl (ar 0, 8, .inl (fun _ => 0)))]) hP hD [3] [0, 1, 2] rfl rfl (by decide) (by decide) hk1 hFc hP1 hD1
  generalize H1 = H at hP hS ⊢
  have hP : va_P (dC, dI) x_cl [(h0, .inr (2, [.ref q1, .ref q2, .null, .null, .null, .null, .null, .int 0, .int 0, .int 0, .long 0])), (q1, .inl (ar 0, 6, .inl (fun _ => 0))), (q2, .inl (ar 4, 6, .inr (.inr (.inr (.inr (fun _ => none)))))), (q3, .inr (4, [.ref q4, .int 0])), (q4, .inl (ar 0, 8, .inl (fun _ => 0)))] H := hP
  have hD : va_D A [(h0, .inr (2, [.ref q1, .ref q2, .null, .null, .null, .null, .null, .int 0, .int 0, .int 0, .long 0])), (q1, .inl (ar 0, 6, .inl (fun _ => 0))), (q2, .inl (ar 4, 6, .inr (.inr (.inr (.inr (fun _ => none)))))), (q3, .inr (4, [.ref q4, .int 0])), (q4, .inl (ar 0, 8, .inl (fun _ => 0)))] := hD
  refine W.widen (k := 4) (n := 22) (Nat.le_of_ble_eq_true rfl) (Nat.le_of_ble_eq_true rfl) ?_
  refine va_putF (D := (dC, dI)) (ci := 2) (v := .ref q3) (ty := (.object "ChannelMachine$Row")) (C := "ChannelMachine$Machine") (T := F_Machine) (N := 11) hx hb hts i_Machine t_Machine t_Machine_ok n_Machine hown hK hP hD hS 0 rfl rfl 2 (by decide) (hts _ k_154) (fun _ h9 => h9) rfl hin rfl (by decide +kernel) rfl rfl (Nat.le_of_ble_eq_true rfl) d_Machine_init_29 (fun H locs hP hD hS => ?_)
  have hP : va_P (dC, dI) x_cl [(h0, .inr (2, [.ref q1, .ref q2, .ref q3, .null, .null, .null, .null, .int 0, .int 0, .int 0, .long 0])), (q1, .inl (ar 0, 6, .inl (fun _ => 0))), (q2, .inl (ar 4, 6, .inr (.inr (.inr (.inr (fun _ => none)))))), (q3, .inr (4, [.ref q4, .int 0])), (q4, .inl (ar 0, 8, .inl (fun _ => 0)))] H := hP
  have hD : va_D A [(h0, .inr (2, [.ref q1, .ref q2, .ref q3, .null, .null, .null, .null, .int 0, .int 0, .int 0, .long 0])), (q1, .inl (ar 0, 6, .inl (fun _ => 0))), (q2, .inl (ar 4, 6, .inr (.inr (.inr (.inr (fun _ => none)))))), (q3, .inr (4, [.ref q4, .int 0])), (q4, .inl (ar 0, 8, .inl (fun _ => 0)))] := hD
  refine lv_aload_n hx hb d_Machine_init_32 rfl (lv_at hl 0 rfl) ?_
  refine va_new (ci := 4) (fs := [.null, .int 0]) (C := "ChannelMachine$Row") (T := F_Row) (N := 2) hx hb hts i_Row t_Row t_Row_ok hown (hts _ k_85) (hts _ k_86) (hts _ k_4) hK hP hD hS hA rfl (fun j hj => by rcases (show j = 0 ∨ j = 1 by omega) with rfl | rfl <;> rfl) (Nat.le_of_ble_eq_true rfl) (Nat.le_of_ble_eq_true rfl) d_Machine_init_33 (fun q5 H hP hD hS => ?_)
  have hP : va_P (dC, dI) x_cl [(h0, .inr (2, [.ref q1, .ref q2, .ref q3, .null, .null, .null, .null, .int 0, .int 0, .int 0, .long 0])), (q1, .inl (ar 0, 6, .inl (fun _ => 0))), (q2, .inl (ar 4, 6, .inr (.inr (.inr (.inr (fun _ => none)))))), (q3, .inr (4, [.ref q4, .int 0])), (q4, .inl (ar 0, 8, .inl (fun _ => 0))), (q5, .inr (4, [.null, .int 0]))] H := hP
  have hD : va_D A [(h0, .inr (2, [.ref q1, .ref q2, .ref q3, .null, .null, .null, .null, .int 0, .int 0, .int 0, .long 0])), (q1, .inl (ar 0, 6, .inl (fun _ => 0))), (q2, .inl (ar 4, 6, .inr (.inr (.inr (.inr (fun _ => none)))))), (q3, .inr (4, [.ref q4, .int 0])), (q4, .inl (ar 0, 8, .inl (fun _ => 0))), (q5, .inr (4, [.null, .int 0]))] := hD
  refine W.widen (k := 5) (n := 24) (Nat.le_of_ble_eq_true rfl) (Nat.le_of_ble_eq_true rfl) ?_
  refine lv_dup hx hb d_Machine_init_36 rfl ?_
  have hPc := hP.sub (ws' := [(q5, .inr (4, [.null, .int 0]))]) [5] rfl
  have hDc := hD.sub (ws' := [(q5, .inr (4, [.null, .int 0]))]) [5] (by decide) rfl
  have hFc := va_free (wc := [(q5, .inr (4, [.null, .int 0]))]) hD hS hA [5] rfl
  refine va_callv (va_runIN (As := []) (rest := [.ref q5, .ref h0]) ⟨hx, hb, hml, hown, hts⟩ (c_Row_init l dC dI ar N0 z q5 H.size) ⟨va_cnB 0 hts (x_good k_89) rfl rfl rfl (hU.2.1 _ kn_87) (hts _ k_4) (by decide +kernel) ⟨Nat.le_of_ble_eq_true rfl, Nat.le_of_ble_eq_true rfl⟩, rfl, hts _ k_88⟩ ⟨x_blind, fun U hU9 hW => x_pre hU9 hW hPc hDc hU hZ hS hAN hN0⟩ rfl rfl hl.1 rfl (lv_room (Nat.le_of_ble_eq_true rfl)) d_Machine_init_37 ⟨Nat.le_of_ble_eq_true rfl, Nat.le_of_ble_eq_true rfl⟩) hS (fun q _ h => hFc q h) hFc (fun u t H1 locs ht hvm hw hB hz1 hk1 hS => ?_)
  obtain ⟨q6, hP1, hD1⟩ := hB
  rw [ht] at hP1
  obtain ⟨hP, hD⟩ := va_join (wr := [(h0, .inr (2, [.ref q1, .ref q2, .ref q3, .null, .null, .null, .null, .int 0, .int 0, .int 0, .long 0])), (q1, .inl (ar 0, 6, .inl (fun _ => 0))), (q2, .inl (ar 4, 6, .inr (.inr (.inr (.inr (fun _ => none)))))), (q3, .inr (4, [.ref q4, .int 0])), (q4, .inl (ar 0, 8, .inl (fun _ => 0)))]) (w1 := [(q5, .inr (4, [.ref q6, .int 0])), (q6, .inl (ar 0, 8, .inl (fun _ => 0)))]) hP hD [5] [0, 1, 2, 3, 4] rfl rfl (by decide) (by decide) hk1 hFc hP1 hD1
  generalize H1 = H at hP hS ⊢
  have hP : va_P (dC, dI) x_cl [(h0, .inr (2, [.ref q1, .ref q2, .ref q3, .null, .null, .null, .null, .int 0, .int 0, .int 0, .long 0])), (q1, .inl (ar 0, 6, .inl (fun _ => 0))), (q2, .inl (ar 4, 6, .inr (.inr (.inr (.inr (fun _ => none)))))), (q3, .inr (4, [.ref q4, .int 0])), (q4, .inl (ar 0, 8, .inl (fun _ => 0))), (q5, .inr (4, [.ref q6, .int 0])), (q6, .inl (ar 0, 8, .inl (fun _ => 0)))] H := hP
  have hD : va_D A [(h0, .inr (2, [.ref q1, .ref q2, .ref q3, .null, .null, .null, .null, .int 0, .int 0, .int 0, .long 0])), (q1, .inl (ar 0, 6, .inl (fun _ => 0))), (q2, .inl (ar 4, 6, .inr (.inr (.inr (.inr (fun _ => none)))))), (q3, .inr (4, [.ref q4, .int 0])), (q4, .inl (ar 0, 8, .inl (fun _ => 0))), (q5, .inr (4, [.ref q6, .int 0])), (q6, .inl (ar 0, 8, .inl (fun _ => 0)))] := hD
  refine W.widen (k := 6) (n := 32) (Nat.le_of_ble_eq_true rfl) (Nat.le_of_ble_eq_true rfl) ?_
  refine va_putF (D := (dC, dI)) (ci := 2) (v := .ref q5) (ty := (.object "ChannelMachine$Row")) (C := "ChannelMachine$Machine") (T := F_Machine) (N := 11) hx hb hts i_Machine t_Machine t_Machine_ok n_Machine hown hK hP hD hS 0 rfl rfl 3 (by decide) (hts _ k_156) (fun _ h9 => h9) rfl hin rfl (by decide +kernel) rfl rfl (Nat.le_of_ble_eq_true rfl) d_Machine_init_40 (fun H locs hP hD hS => ?_)
  have hP : va_P (dC, dI) x_cl [(h0, .inr (2, [.ref q1, .ref q2, .ref q3, .ref q5, .null, .null, .null, .int 0, .int 0, .int 0, .long 0])), (q1, .inl (ar 0, 6, .inl (fun _ => 0))), (q2, .inl (ar 4, 6, .inr (.inr (.inr (.inr (fun _ => none)))))), (q3, .inr (4, [.ref q4, .int 0])), (q4, .inl (ar 0, 8, .inl (fun _ => 0))), (q5, .inr (4, [.ref q6, .int 0])), (q6, .inl (ar 0, 8, .inl (fun _ => 0)))] H := hP
  have hD : va_D A [(h0, .inr (2, [.ref q1, .ref q2, .ref q3, .ref q5, .null, .null, .null, .int 0, .int 0, .int 0, .long 0])), (q1, .inl (ar 0, 6, .inl (fun _ => 0))), (q2, .inl (ar 4, 6, .inr (.inr (.inr (.inr (fun _ => none)))))), (q3, .inr (4, [.ref q4, .int 0])), (q4, .inl (ar 0, 8, .inl (fun _ => 0))), (q5, .inr (4, [.ref q6, .int 0])), (q6, .inl (ar 0, 8, .inl (fun _ => 0)))] := hD
  refine lv_aload_n hx hb d_Machine_init_43 rfl (lv_at hl 0 rfl) ?_
  refine va_new (ci := 0) (fs := [.null, .int 0, .int 0]) (C := "java/util/ArrayList") (T := F_List) (N := 3) hx hb hts i_List t_List t_List_ok hown (hts _ k_100) (hts _ k_101) (hts _ k_7) hK hP hD hS hA rfl (fun j hj => by rcases (show j = 0 ∨ j = 1 ∨ j = 2 by omega) with rfl | rfl | rfl <;> rfl) (Nat.le_of_ble_eq_true rfl) (Nat.le_of_ble_eq_true rfl) d_Machine_init_44 (fun q7 H hP hD hS => ?_)
  have hP : va_P (dC, dI) x_cl [(h0, .inr (2, [.ref q1, .ref q2, .ref q3, .ref q5, .null, .null, .null, .int 0, .int 0, .int 0, .long 0])), (q1, .inl (ar 0, 6, .inl (fun _ => 0))), (q2, .inl (ar 4, 6, .inr (.inr (.inr (.inr (fun _ => none)))))), (q3, .inr (4, [.ref q4, .int 0])), (q4, .inl (ar 0, 8, .inl (fun _ => 0))), (q5, .inr (4, [.ref q6, .int 0])), (q6, .inl (ar 0, 8, .inl (fun _ => 0))), (q7, .inr (0, [.null, .int 0, .int 0]))] H := hP
  have hD : va_D A [(h0, .inr (2, [.ref q1, .ref q2, .ref q3, .ref q5, .null, .null, .null, .int 0, .int 0, .int 0, .long 0])), (q1, .inl (ar 0, 6, .inl (fun _ => 0))), (q2, .inl (ar 4, 6, .inr (.inr (.inr (.inr (fun _ => none)))))), (q3, .inr (4, [.ref q4, .int 0])), (q4, .inl (ar 0, 8, .inl (fun _ => 0))), (q5, .inr (4, [.ref q6, .int 0])), (q6, .inl (ar 0, 8, .inl (fun _ => 0))), (q7, .inr (0, [.null, .int 0, .int 0]))] := hD
  refine W.widen (k := 7) (n := 35) (Nat.le_of_ble_eq_true rfl) (Nat.le_of_ble_eq_true rfl) ?_
  refine lv_dup hx hb d_Machine_init_47 rfl ?_
  have hPc := hP.sub (ws' := [(q7, .inr (0, [.null, .int 0, .int 0]))]) [7] rfl
  have hDc := hD.sub (ws' := [(q7, .inr (0, [.null, .int 0, .int 0]))]) [7] (by decide) rfl
  have hFc := va_free (wc := [(q7, .inr (0, [.null, .int 0, .int 0]))]) hD hS hA [7] rfl
  refine va_callv (va_runI (As := []) (rest := [.ref q7, .ref h0]) ⟨hx, hb, hml, hown, hts⟩ (c_ArrayList_init l dC dI ar N0 z q7 H.size) (cwI 0 hts (x_good k_104) rfl rfl rfl (hts _ k_7) (hts _ k_102) (hts _ k_103) rfl (by decide +kernel) ⟨Nat.le_of_ble_eq_true rfl, Nat.le_of_ble_eq_true rfl⟩) ⟨x_blind, fun U hU9 hW => x_pre hU9 hW hPc hDc hU hZ hS hAN hN0⟩ rfl rfl hl.1 rfl (lv_room (Nat.le_of_ble_eq_true rfl)) d_Machine_init_48 ⟨Nat.le_of_ble_eq_true rfl, Nat.le_of_ble_eq_true rfl⟩) hS (fun q _ h => hFc q h) hFc (fun u t H1 locs ht hvm hw hB hz1 hk1 hS => ?_)
  obtain ⟨hP1, hD1⟩ := hB
  rw [ht] at hP1
  obtain ⟨hP, hD⟩ := va_join (wr := [(h0, .inr (2, [.ref q1, .ref q2, .ref q3, .ref q5, .null, .null, .null, .int 0, .int 0, .int 0, .long 0])), (q1, .inl (ar 0, 6, .inl (fun _ => 0))), (q2, .inl (ar 4, 6, .inr (.inr (.inr (.inr (fun _ => none)))))), (q3, .inr (4, [.ref q4, .int 0])), (q4, .inl (ar 0, 8, .inl (fun _ => 0))), (q5, .inr (4, [.ref q6, .int 0])), (q6, .inl (ar 0, 8, .inl (fun _ => 0)))]) (w1 := [(q7, .inr (0, [.ref (z 0), .int 0, .int 0]))]) hP hD [7] [0, 1, 2, 3, 4, 5, 6] rfl rfl (by decide) (by decide) hk1 hFc hP1 hD1
  generalize H1 = H at hP hS ⊢
  have hP : va_P (dC, dI) x_cl [(h0, .inr (2, [.ref q1, .ref q2, .ref q3, .ref q5, .null, .null, .null, .int 0, .int 0, .int 0, .long 0])), (q1, .inl (ar 0, 6, .inl (fun _ => 0))), (q2, .inl (ar 4, 6, .inr (.inr (.inr (.inr (fun _ => none)))))), (q3, .inr (4, [.ref q4, .int 0])), (q4, .inl (ar 0, 8, .inl (fun _ => 0))), (q5, .inr (4, [.ref q6, .int 0])), (q6, .inl (ar 0, 8, .inl (fun _ => 0))), (q7, .inr (0, [.ref (z 0), .int 0, .int 0]))] H := hP
  have hD : va_D A [(h0, .inr (2, [.ref q1, .ref q2, .ref q3, .ref q5, .null, .null, .null, .int 0, .int 0, .int 0, .long 0])), (q1, .inl (ar 0, 6, .inl (fun _ => 0))), (q2, .inl (ar 4, 6, .inr (.inr (.inr (.inr (fun _ => none)))))), (q3, .inr (4, [.ref q4, .int 0])), (q4, .inl (ar 0, 8, .inl (fun _ => 0))), (q5, .inr (4, [.ref q6, .int 0])), (q6, .inl (ar 0, 8, .inl (fun _ => 0))), (q7, .inr (0, [.ref (z 0), .int 0, .int 0]))] := hD
  refine W.widen (k := 7) (n := 35) (Nat.le_of_ble_eq_true rfl) (Nat.le_of_ble_eq_true rfl) ?_
  refine va_putF (D := (dC, dI)) (ci := 2) (v := .ref q7) (ty := (.object "java/util/List")) (C := "ChannelMachine$Machine") (T := F_Machine) (N := 11) hx hb hts i_Machine t_Machine t_Machine_ok n_Machine hown hK hP hD hS 0 rfl rfl 4 (by decide) (hts _ k_158) (fun _ h9 => h9) rfl hin rfl (by decide +kernel) rfl rfl (Nat.le_of_ble_eq_true rfl) d_Machine_init_51 (fun H locs hP hD hS => ?_)
  have hP : va_P (dC, dI) x_cl [(h0, .inr (2, [.ref q1, .ref q2, .ref q3, .ref q5, .ref q7, .null, .null, .int 0, .int 0, .int 0, .long 0])), (q1, .inl (ar 0, 6, .inl (fun _ => 0))), (q2, .inl (ar 4, 6, .inr (.inr (.inr (.inr (fun _ => none)))))), (q3, .inr (4, [.ref q4, .int 0])), (q4, .inl (ar 0, 8, .inl (fun _ => 0))), (q5, .inr (4, [.ref q6, .int 0])), (q6, .inl (ar 0, 8, .inl (fun _ => 0))), (q7, .inr (0, [.ref (z 0), .int 0, .int 0]))] H := hP
  have hD : va_D A [(h0, .inr (2, [.ref q1, .ref q2, .ref q3, .ref q5, .ref q7, .null, .null, .int 0, .int 0, .int 0, .long 0])), (q1, .inl (ar 0, 6, .inl (fun _ => 0))), (q2, .inl (ar 4, 6, .inr (.inr (.inr (.inr (fun _ => none)))))), (q3, .inr (4, [.ref q4, .int 0])), (q4, .inl (ar 0, 8, .inl (fun _ => 0))), (q5, .inr (4, [.ref q6, .int 0])), (q6, .inl (ar 0, 8, .inl (fun _ => 0))), (q7, .inr (0, [.ref (z 0), .int 0, .int 0]))] := hD
  refine lv_aload_n hx hb d_Machine_init_54 rfl (lv_at hl 0 rfl) ?_
  refine va_new (ci := 0) (fs := [.null, .int 0, .int 0]) (C := "java/util/ArrayList") (T := F_List) (N := 3) hx hb hts i_List t_List t_List_ok hown (hts _ k_100) (hts _ k_101) (hts _ k_7) hK hP hD hS hA rfl (fun j hj => by rcases (show j = 0 ∨ j = 1 ∨ j = 2 by omega) with rfl | rfl | rfl <;> rfl) (Nat.le_of_ble_eq_true rfl) (Nat.le_of_ble_eq_true rfl) d_Machine_init_55 (fun q8 H hP hD hS => ?_)
  have hP : va_P (dC, dI) x_cl [(h0, .inr (2, [.ref q1, .ref q2, .ref q3, .ref q5, .ref q7, .null, .null, .int 0, .int 0, .int 0, .long 0])), (q1, .inl (ar 0, 6, .inl (fun _ => 0))), (q2, .inl (ar 4, 6, .inr (.inr (.inr (.inr (fun _ => none)))))), (q3, .inr (4, [.ref q4, .int 0])), (q4, .inl (ar 0, 8, .inl (fun _ => 0))), (q5, .inr (4, [.ref q6, .int 0])), (q6, .inl (ar 0, 8, .inl (fun _ => 0))), (q7, .inr (0, [.ref (z 0), .int 0, .int 0])), (q8, .inr (0, [.null, .int 0, .int 0]))] H := hP
  have hD : va_D A [(h0, .inr (2, [.ref q1, .ref q2, .ref q3, .ref q5, .ref q7, .null, .null, .int 0, .int 0, .int 0, .long 0])), (q1, .inl (ar 0, 6, .inl (fun _ => 0))), (q2, .inl (ar 4, 6, .inr (.inr (.inr (.inr (fun _ => none)))))), (q3, .inr (4, [.ref q4, .int 0])), (q4, .inl (ar 0, 8, .inl (fun _ => 0))), (q5, .inr (4, [.ref q6, .int 0])), (q6, .inl (ar 0, 8, .inl (fun _ => 0))), (q7, .inr (0, [.ref (z 0), .int 0, .int 0])), (q8, .inr (0, [.null, .int 0, .int 0]))] := hD
  refine W.widen (k := 8) (n := 38) (Nat.le_of_ble_eq_true rfl) (Nat.le_of_ble_eq_true rfl) ?_
  refine lv_dup hx hb d_Machine_init_58 rfl ?_
  have hPc := hP.sub (ws' := [(q8, .inr (0, [.null, .int 0, .int 0]))]) [8] rfl
  have hDc := hD.sub (ws' := [(q8, .inr (0, [.null, .int 0, .int 0]))]) [8] (by decide) rfl
  have hFc := va_free (wc := [(q8, .inr (0, [.null, .int 0, .int 0]))]) hD hS hA [8] rfl
  refine va_callv (va_runI (As := []) (rest := [.ref q8, .ref h0]) ⟨hx, hb, hml, hown, hts⟩ (c_ArrayList_init l dC dI ar N0 z q8 H.size) (cwI 0 hts (x_good k_104) rfl rfl rfl (hts _ k_7) (hts _ k_102) (hts _ k_103) rfl (by decide +kernel) ⟨Nat.le_of_ble_eq_true rfl, Nat.le_of_ble_eq_true rfl⟩) ⟨x_blind, fun U hU9 hW => x_pre hU9 hW hPc hDc hU hZ hS hAN hN0⟩ rfl rfl hl.1 rfl (lv_room (Nat.le_of_ble_eq_true rfl)) d_Machine_init_59 ⟨Nat.le_of_ble_eq_true rfl, Nat.le_of_ble_eq_true rfl⟩) hS (fun q _ h => hFc q h) hFc (fun u t H1 locs ht hvm hw hB hz1 hk1 hS => ?_)
  obtain ⟨hP1, hD1⟩ := hB
  rw [ht] at hP1
  obtain ⟨hP, hD⟩ := va_join (wr := [(h0, .inr (2, [.ref q1, .ref q2, .ref q3, .ref q5, .ref q7, .null, .null, .int 0, .int 0, .int 0, .long 0])), (q1, .inl (ar 0, 6, .inl (fun _ => 0))), (q2, .inl (ar 4, 6, .inr (.inr (.inr (.inr (fun _ => none)))))), (q3, .inr (4, [.ref q4, .int 0])), (q4, .inl (ar 0, 8, .inl (fun _ => 0))), (q5, .inr (4, [.ref q6, .int 0])), (q6, .inl (ar 0, 8, .inl (fun _ => 0))), (q7, .inr (0, [.ref (z 0), .int 0, .int 0]))]) (w1 := [(q8, .inr (0, [.ref (z 0), .int 0, .int 0]))]) hP hD [8] [0, 1, 2, 3, 4, 5, 6, 7] rfl rfl (by decide) (by decide) hk1 hFc hP1 hD1
  generalize H1 = H at hP hS ⊢
  have hP : va_P (dC, dI) x_cl [(h0, .inr (2, [.ref q1, .ref q2, .ref q3, .ref q5, .ref q7, .null, .null, .int 0, .int 0, .int 0, .long 0])), (q1, .inl (ar 0, 6, .inl (fun _ => 0))), (q2, .inl (ar 4, 6, .inr (.inr (.inr (.inr (fun _ => none)))))), (q3, .inr (4, [.ref q4, .int 0])), (q4, .inl (ar 0, 8, .inl (fun _ => 0))), (q5, .inr (4, [.ref q6, .int 0])), (q6, .inl (ar 0, 8, .inl (fun _ => 0))), (q7, .inr (0, [.ref (z 0), .int 0, .int 0])), (q8, .inr (0, [.ref (z 0), .int 0, .int 0]))] H := hP
  have hD : va_D A [(h0, .inr (2, [.ref q1, .ref q2, .ref q3, .ref q5, .ref q7, .null, .null, .int 0, .int 0, .int 0, .long 0])), (q1, .inl (ar 0, 6, .inl (fun _ => 0))), (q2, .inl (ar 4, 6, .inr (.inr (.inr (.inr (fun _ => none)))))), (q3, .inr (4, [.ref q4, .int 0])), (q4, .inl (ar 0, 8, .inl (fun _ => 0))), (q5, .inr (4, [.ref q6, .int 0])), (q6, .inl (ar 0, 8, .inl (fun _ => 0))), (q7, .inr (0, [.ref (z 0), .int 0, .int 0])), (q8, .inr (0, [.ref (z 0), .int 0, .int 0]))] := hD
  refine W.widen (k := 8) (n := 38) (Nat.le_of_ble_eq_true rfl) (Nat.le_of_ble_eq_true rfl) ?_
  refine va_putF (D := (dC, dI)) (ci := 2) (v := .ref q8) (ty := (.object "java/util/List")) (C := "ChannelMachine$Machine") (T := F_Machine) (N := 11) hx hb hts i_Machine t_Machine t_Machine_ok n_Machine hown hK hP hD hS 0 rfl rfl 5 (by decide) (hts _ k_160) (fun _ h9 => h9) rfl hin rfl (by decide +kernel) rfl rfl (Nat.le_of_ble_eq_true rfl) d_Machine_init_62 (fun H locs hP hD hS => ?_)
  have hP : va_P (dC, dI) x_cl [(h0, .inr (2, [.ref q1, .ref q2, .ref q3, .ref q5, .ref q7, .ref q8, .null, .int 0, .int 0, .int 0, .long 0])), (q1, .inl (ar 0, 6, .inl (fun _ => 0))), (q2, .inl (ar 4, 6, .inr (.inr (.inr (.inr (fun _ => none)))))), (q3, .inr (4, [.ref q4, .int 0])), (q4, .inl (ar 0, 8, .inl (fun _ => 0))), (q5, .inr (4, [.ref q6, .int 0])), (q6, .inl (ar 0, 8, .inl (fun _ => 0))), (q7, .inr (0, [.ref (z 0), .int 0, .int 0])), (q8, .inr (0, [.ref (z 0), .int 0, .int 0]))] H := hP
  have hD : va_D A [(h0, .inr (2, [.ref q1, .ref q2, .ref q3, .ref q5, .ref q7, .ref q8, .null, .int 0, .int 0, .int 0, .long 0])), (q1, .inl (ar 0, 6, .inl (fun _ => 0))), (q2, .inl (ar 4, 6, .inr (.inr (.inr (.inr (fun _ => none)))))), (q3, .inr (4, [.ref q4, .int 0])), (q4, .inl (ar 0, 8, .inl (fun _ => 0))), (q5, .inr (4, [.ref q6, .int 0])), (q6, .inl (ar 0, 8, .inl (fun _ => 0))), (q7, .inr (0, [.ref (z 0), .int 0, .int 0])), (q8, .inr (0, [.ref (z 0), .int 0, .int 0]))] := hD
  refine lv_aload_n hx hb d_Machine_init_65 rfl (lv_at hl 0 rfl) ?_
  refine lv_bipush (v := 72) hx hb d_Machine_init_66 (by decide) ?_
  refine x_newa (D := (dC, dI)) (ar := ar) (atype := .int) hx hb (hts _ k_76) (ty := .int) rfl hK hP hD hS hA (N' := 72) (a0 := (72, .inl (fun _ => 0))) (fun _ => rfl) (by decide) (by decide) (by decide) (Nat.le_of_ble_eq_true rfl) (Nat.le_of_ble_eq_true rfl) 0 rfl (by decide) d_Machine_init_68 (fun q9 H hP hD hS => ?_)
  have hP : va_P (dC, dI) x_cl [(h0, .inr (2, [.ref q1, .ref q2, .ref q3, .ref q5, .ref q7, .ref q8, .null, .int 0, .int 0, .int 0, .long 0])), (q1, .inl (ar 0, 6, .inl (fun _ => 0))), (q2, .inl (ar 4, 6, .inr (.inr (.inr (.inr (fun _ => none)))))), (q3, .inr (4, [.ref q4, .int 0])), (q4, .inl (ar 0, 8, .inl (fun _ => 0))), (q5, .inr (4, [.ref q6, .int 0])), (q6, .inl (ar 0, 8, .inl (fun _ => 0))), (q7, .inr (0, [.ref (z 0), .int 0, .int 0])), (q8, .inr (0, [.ref (z 0), .int 0, .int 0])), (q9, .inl (ar 0, 72, .inl (fun _ => 0)))] H := hP
  have hD : va_D A [(h0, .inr (2, [.ref q1, .ref q2, .ref q3, .ref q5, .ref q7, .ref q8, .null, .int 0, .int 0, .int 0, .long 0])), (q1, .inl (ar 0, 6, .inl (fun _ => 0))), (q2, .inl (ar 4, 6, .inr (.inr (.inr (.inr (fun _ => none)))))), (q3, .inr (4, [.ref q4, .int 0])), (q4, .inl (ar 0, 8, .inl (fun _ => 0))), (q5, .inr (4, [.ref q6, .int 0])), (q6, .inl (ar 0, 8, .inl (fun _ => 0))), (q7, .inr (0, [.ref (z 0), .int 0, .int 0])), (q8, .inr (0, [.ref (z 0), .int 0, .int 0])), (q9, .inl (ar 0, 72, .inl (fun _ => 0)))] := hD
  refine W.widen (k := 9) (n := 110) (Nat.le_of_ble_eq_true rfl) (Nat.le_of_ble_eq_true rfl) ?_
  refine va_putF (D := (dC, dI)) (ci := 2) (v := .ref q9) (ty := (.array .int)) (C := "ChannelMachine$Machine") (T := F_Machine) (N := 11) hx hb hts i_Machine t_Machine t_Machine_ok n_Machine hown hK hP hD hS 0 rfl rfl 6 (by decide) (hts _ k_162) (fun _ h9 => h9) rfl hin rfl (by decide +kernel) rfl rfl (Nat.le_of_ble_eq_true rfl) d_Machine_init_70 (fun H locs hP hD hS => ?_)
  have hP : va_P (dC, dI) x_cl [(h0, .inr (2, [.ref q1, .ref q2, .ref q3, .ref q5, .ref q7, .ref q8, .ref q9, .int 0, .int 0, .int 0, .long 0])), (q1, .inl (ar 0, 6, .inl (fun _ => 0))), (q2, .inl (ar 4, 6, .inr (.inr (.inr (.inr (fun _ => none)))))), (q3, .inr (4, [.ref q4, .int 0])), (q4, .inl (ar 0, 8, .inl (fun _ => 0))), (q5, .inr (4, [.ref q6, .int 0])), (q6, .inl (ar 0, 8, .inl (fun _ => 0))), (q7, .inr (0, [.ref (z 0), .int 0, .int 0])), (q8, .inr (0, [.ref (z 0), .int 0, .int 0])), (q9, .inl (ar 0, 72, .inl (fun _ => 0)))] H := hP
  have hD : va_D A [(h0, .inr (2, [.ref q1, .ref q2, .ref q3, .ref q5, .ref q7, .ref q8, .ref q9, .int 0, .int 0, .int 0, .long 0])), (q1, .inl (ar 0, 6, .inl (fun _ => 0))), (q2, .inl (ar 4, 6, .inr (.inr (.inr (.inr (fun _ => none)))))), (q3, .inr (4, [.ref q4, .int 0])), (q4, .inl (ar 0, 8, .inl (fun _ => 0))), (q5, .inr (4, [.ref q6, .int 0])), (q6, .inl (ar 0, 8, .inl (fun _ => 0))), (q7, .inr (0, [.ref (z 0), .int 0, .int 0])), (q8, .inr (0, [.ref (z 0), .int 0, .int 0])), (q9, .inl (ar 0, 72, .inl (fun _ => 0)))] := hD
  refine lv_aload_n hx hb d_Machine_init_73 rfl (lv_at hl 0 rfl) ?_
  refine lv_iconst (v := 0) hx hb d_Machine_init_74 (by decide) ?_
  refine va_put (D := (dC, dI)) (ci := 2) (v := .int 0) (ty := .int) (C := "ChannelMachine$Machine") (T := F_Machine) (N := 11) hx hb hts i_Machine t_Machine t_Machine_ok n_Machine hown hK hP hD hS 0 rfl rfl 7 (by decide) (hts _ k_163) (fun _ h9 => h9) rfl (by decide +kernel) rfl rfl (Nat.le_of_ble_eq_true rfl) d_Machine_init_75 (fun H locs hP hD hS => ?_)
  have hP : va_P (dC, dI) x_cl [(h0, .inr (2, [.ref q1, .ref q2, .ref q3, .ref q5, .ref q7, .ref q8, .ref q9, .int 0, .int 0, .int 0, .long 0])), (q1, .inl (ar 0, 6, .inl (fun _ => 0))), (q2, .inl (ar 4, 6, .inr (.inr (.inr (.inr (fun _ => none)))))), (q3, .inr (4, [.ref q4, .int 0])), (q4, .inl (ar 0, 8, .inl (fun _ => 0))), (q5, .inr (4, [.ref q6, .int 0])), (q6, .inl (ar 0, 8, .inl (fun _ => 0))), (q7, .inr (0, [.ref (z 0), .int 0, .int 0])), (q8, .inr (0, [.ref (z 0), .int 0, .int 0])), (q9, .inl (ar 0, 72, .inl (fun _ => 0)))] H := hP
  have hD : va_D A [(h0, .inr (2, [.ref q1, .ref q2, .ref q3, .ref q5, .ref q7, .ref q8, .ref q9, .int 0, .int 0, .int 0, .long 0])), (q1, .inl (ar 0, 6, .inl (fun _ => 0))), (q2, .inl (ar 4, 6, .inr (.inr (.inr (.inr (fun _ => none)))))), (q3, .inr (4, [.ref q4, .int 0])), (q4, .inl (ar 0, 8, .inl (fun _ => 0))), (q5, .inr (4, [.ref q6, .int 0])), (q6, .inl (ar 0, 8, .inl (fun _ => 0))), (q7, .inr (0, [.ref (z 0), .int 0, .int 0])), (q8, .inr (0, [.ref (z 0), .int 0, .int 0])), (q9, .inl (ar 0, 72, .inl (fun _ => 0)))] := hD
  refine lv_aload_n hx hb d_Machine_init_78 rfl (lv_at hl 0 rfl) ?_
  refine lv_iconst (v := 0) hx hb d_Machine_init_79 (by decide) ?_
  refine va_put (D := (dC, dI)) (ci := 2) (v := .int 0) (ty := .int) (C := "ChannelMachine$Machine") (T := F_Machine) (N := 11) hx hb hts i_Machine t_Machine t_Machine_ok n_Machine hown hK hP hD hS 0 rfl rfl 8 (by decide) (hts _ k_165) (fun _ h9 => h9) rfl (by decide +kernel) rfl rfl (Nat.le_of_ble_eq_true rfl) d_Machine_init_80 (fun H locs hP hD hS => ?_)
  have hP : va_P (dC, dI) x_cl [(h0, .inr (2, [.ref q1, .ref q2, .ref q3, .ref q5, .ref q7, .ref q8, .ref q9, .int 0, .int 0, .int 0, .long 0])), (q1, .inl (ar 0, 6, .inl (fun _ => 0))), (q2, .inl (ar 4, 6, .inr (.inr (.inr (.inr (fun _ => none)))))), (q3, .inr (4, [.ref q4, .int 0])), (q4, .inl (ar 0, 8, .inl (fun _ => 0))), (q5, .inr (4, [.ref q6, .int 0])), (q6, .inl (ar 0, 8, .inl (fun _ => 0))), (q7, .inr (0, [.ref (z 0), .int 0, .int 0])), (q8, .inr (0, [.ref (z 0), .int 0, .int 0])), (q9, .inl (ar 0, 72, .inl (fun _ => 0)))] H := hP
  have hD : va_D A [(h0, .inr (2, [.ref q1, .ref q2, .ref q3, .ref q5, .ref q7, .ref q8, .ref q9, .int 0, .int 0, .int 0, .long 0])), (q1, .inl (ar 0, 6, .inl (fun _ => 0))), (q2, .inl (ar 4, 6, .inr (.inr (.inr (.inr (fun _ => none)))))), (q3, .inr (4, [.ref q4, .int 0])), (q4, .inl (ar 0, 8, .inl (fun _ => 0))), (q5, .inr (4, [.ref q6, .int 0])), (q6, .inl (ar 0, 8, .inl (fun _ => 0))), (q7, .inr (0, [.ref (z 0), .int 0, .int 0])), (q8, .inr (0, [.ref (z 0), .int 0, .int 0])), (q9, .inl (ar 0, 72, .inl (fun _ => 0)))] := hD
  refine lv_aload_n hx hb d_Machine_init_83 rfl (lv_at hl 0 rfl) ?_
  refine lv_iconst (v := 0) hx hb d_Machine_init_84 (by decide) ?_
  refine va_put (D := (dC, dI)) (ci := 2) (v := .int 0) (ty := .int) (C := "ChannelMachine$Machine") (T := F_Machine) (N := 11) hx hb hts i_Machine t_Machine t_Machine_ok n_Machine hown hK hP hD hS 0 rfl rfl 9 (by decide) (hts _ k_167) (fun _ h9 => h9) rfl (by decide +kernel) rfl rfl (Nat.le_of_ble_eq_true rfl) d_Machine_init_85 (fun H locs hP hD hS => ?_)
  have hP : va_P (dC, dI) x_cl [(h0, .inr (2, [.ref q1, .ref q2, .ref q3, .ref q5, .ref q7, .ref q8, .ref q9, .int 0, .int 0, .int 0, .long 0])), (q1, .inl (ar 0, 6, .inl (fun _ => 0))), (q2, .inl (ar 4, 6, .inr (.inr (.inr (.inr (fun _ => none)))))), (q3, .inr (4, [.ref q4, .int 0])), (q4, .inl (ar 0, 8, .inl (fun _ => 0))), (q5, .inr (4, [.ref q6, .int 0])), (q6, .inl (ar 0, 8, .inl (fun _ => 0))), (q7, .inr (0, [.ref (z 0), .int 0, .int 0])), (q8, .inr (0, [.ref (z 0), .int 0, .int 0])), (q9, .inl (ar 0, 72, .inl (fun _ => 0)))] H := hP
  have hD : va_D A [(h0, .inr (2, [.ref q1, .ref q2, .ref q3, .ref q5, .ref q7, .ref q8, .ref q9, .int 0, .int 0, .int 0, .long 0])), (q1, .inl (ar 0, 6, .inl (fun _ => 0))), (q2, .inl (ar 4, 6, .inr (.inr (.inr (.inr (fun _ => none)))))), (q3, .inr (4, [.ref q4, .int 0])), (q4, .inl (ar 0, 8, .inl (fun _ => 0))), (q5, .inr (4, [.ref q6, .int 0])), (q6, .inl (ar 0, 8, .inl (fun _ => 0))), (q7, .inr (0, [.ref (z 0), .int 0, .int 0])), (q8, .inr (0, [.ref (z 0), .int 0, .int 0])), (q9, .inl (ar 0, 72, .inl (fun _ => 0)))] := hD
  refine lv_aload_n hx hb d_Machine_init_88 rfl (lv_at hl 0 rfl) ?_
  refine lv_lconst (v := 0) hx hb d_Machine_init_89 (by decide) ?_
  refine va_put (D := (dC, dI)) (ci := 2) (v := .long 0) (ty := .long) (C := "ChannelMachine$Machine") (T := F_Machine) (N := 11) hx hb hts i_Machine t_Machine t_Machine_ok n_Machine hown hK hP hD hS 0 rfl rfl 10 (by decide) (hts _ k_169) (fun _ h9 => h9) rfl (by decide +kernel) rfl rfl (Nat.le_of_ble_eq_true rfl) d_Machine_init_90 (fun H locs hP hD hS => ?_)
  have hP : va_P (dC, dI) x_cl [(h0, .inr (2, [.ref q1, .ref q2, .ref q3, .ref q5, .ref q7, .ref q8, .ref q9, .int 0, .int 0, .int 0, .long 0])), (q1, .inl (ar 0, 6, .inl (fun _ => 0))), (q2, .inl (ar 4, 6, .inr (.inr (.inr (.inr (fun _ => none)))))), (q3, .inr (4, [.ref q4, .int 0])), (q4, .inl (ar 0, 8, .inl (fun _ => 0))), (q5, .inr (4, [.ref q6, .int 0])), (q6, .inl (ar 0, 8, .inl (fun _ => 0))), (q7, .inr (0, [.ref (z 0), .int 0, .int 0])), (q8, .inr (0, [.ref (z 0), .int 0, .int 0])), (q9, .inl (ar 0, 72, .inl (fun _ => 0)))] H := hP
  have hD : va_D A [(h0, .inr (2, [.ref q1, .ref q2, .ref q3, .ref q5, .ref q7, .ref q8, .ref q9, .int 0, .int 0, .int 0, .long 0])), (q1, .inl (ar 0, 6, .inl (fun _ => 0))), (q2, .inl (ar 4, 6, .inr (.inr (.inr (.inr (fun _ => none)))))), (q3, .inr (4, [.ref q4, .int 0])), (q4, .inl (ar 0, 8, .inl (fun _ => 0))), (q5, .inr (4, [.ref q6, .int 0])), (q6, .inl (ar 0, 8, .inl (fun _ => 0))), (q7, .inr (0, [.ref (z 0), .int 0, .int 0])), (q8, .inr (0, [.ref (z 0), .int 0, .int 0])), (q9, .inl (ar 0, 72, .inl (fun _ => 0)))] := hD
  refine lv_iconst (v := 0) hx hb d_Machine_init_93 (by decide) ?_
  refine lv_istore_n (lv' := [(1, .int 0), (0, .ref h0)]) hx hb d_Machine_init_94 rfl hl (by decide) rfl (fun ls hl => ?_)
  refine lv_iload_n hx hb d_Machine_init_95 rfl (lv_at hl 0 rfl) ?_
  refine lv_bipush (v := 6) hx hb d_Machine_init_96 (by decide) ?_
  refine lv_icmp_ge (tgt := 120) hx hb d_Machine_init_98 (by decide) (fun c10 => absurd c10 (by decide)) (fun _ => ?_)
  refine lv_aload_n hx hb d_Machine_init_101 rfl (lv_at hl 1 rfl) ?_
  refine va_get (D := (dC, dI)) (ci := 2) (v := .ref q2) (C := "ChannelMachine$Machine") (T := F_Machine) (N := 11) hx hb hts i_Machine hown hK hP 0 rfl rfl 1 (by decide) (hts _ k_152) (fun _ h9 => h9) rfl d_Machine_init_102 ?_
  refine lv_iload_n hx hb d_Machine_init_105 rfl (lv_at hl 0 rfl) ?_
  refine va_new (ci := 1) (fs := [.null, .null, .int 0, .null]) (C := "ChannelMachine$Channel") (T := F_Channel) (N := 4) hx hb hts i_Channel t_Channel t_Channel_ok hown (hts _ k_83) (hts _ k_126) (hts _ k_8) hK hP hD hS hA rfl (fun j hj => by rcases (show j = 0 ∨ j = 1 ∨ j = 2 ∨ j = 3 by omega) with rfl | rfl | rfl | rfl <;> rfl) (Nat.le_of_ble_eq_true rfl) (Nat.le_of_ble_eq_true rfl) d_Machine_init_106 (fun q11 H hP hD hS => ?_)
  have hP : va_P (dC, dI) x_cl [(h0, .inr (2, [.ref q1, .ref q2, .ref q3, .ref q5, .ref q7, .ref q8, .ref q9, .int 0, .int 0, .int 0, .long 0])), (q1, .inl (ar 0, 6, .inl (fun _ => 0))), (q2, .inl (ar 4, 6, .inr (.inr (.inr (.inr (fun _ => none)))))), (q3, .inr (4, [.ref q4, .int 0])), (q4, .inl (ar 0, 8, .inl (fun _ => 0))), (q5, .inr (4, [.ref q6, .int 0])), (q6, .inl (ar 0, 8, .inl (fun _ => 0))), (q7, .inr (0, [.ref (z 0), .int 0, .int 0])), (q8, .inr (0, [.ref (z 0), .int 0, .int 0])), (q9, .inl (ar 0, 72, .inl (fun _ => 0))), (q11, .inr (1, [.null, .null, .int 0, .null]))] H := hP
  have hD : va_D A [(h0, .inr (2, [.ref q1, .ref q2, .ref q3, .ref q5, .ref q7, .ref q8, .ref q9, .int 0, .int 0, .int 0, .long 0])), (q1, .inl (ar 0, 6, .inl (fun _ => 0))), (q2, .inl (ar 4, 6, .inr (.inr (.inr (.inr (fun _ => none)))))), (q3, .inr (4, [.ref q4, .int 0])), (q4, .inl (ar 0, 8, .inl (fun _ => 0))), (q5, .inr (4, [.ref q6, .int 0])), (q6, .inl (ar 0, 8, .inl (fun _ => 0))), (q7, .inr (0, [.ref (z 0), .int 0, .int 0])), (q8, .inr (0, [.ref (z 0), .int 0, .int 0])), (q9, .inl (ar 0, 72, .inl (fun _ => 0))), (q11, .inr (1, [.null, .null, .int 0, .null]))] := hD
  refine W.widen (k := 10) (n := 114) (Nat.le_of_ble_eq_true rfl) (Nat.le_of_ble_eq_true rfl) ?_
  refine lv_dup hx hb d_Machine_init_109 rfl ?_
  have hPc := hP.sub (ws' := [(q11, .inr (1, [.null, .null, .int 0, .null]))]) [10] rfl
  have hDc := hD.sub (ws' := [(q11, .inr (1, [.null, .null, .int 0, .null]))]) [10] (by decide) rfl
  have hFc := va_free (wc := [(q11, .inr (1, [.null, .null, .int 0, .null]))]) hD hS hA [10] rfl
  refine va_callv (va_runIN (As := []) (rest := [.ref q11, .int 0, .ref q2]) ⟨hx, hb, hml, hown, hts⟩ (c_Channel_init l dC dI ar N0 z q11 H.size) ⟨va_cnB 0 hts (x_good k_129) rfl rfl rfl (hU.2.1 _ kn_127) (hts _ k_8) (by decide +kernel) ⟨Nat.le_of_ble_eq_true rfl, Nat.le_of_ble_eq_true rfl⟩, rfl, hts _ k_128⟩ ⟨x_blind, fun U hU9 hW => x_pre hU9 hW hPc hDc hU hZ hS hAN hN0⟩ rfl rfl hl.1 rfl (lv_room (Nat.le_of_ble_eq_true rfl)) d_Machine_init_110 ⟨Nat.le_of_ble_eq_true rfl, Nat.le_of_ble_eq_true rfl⟩) hS (fun q _ h => hFc q h) hFc (fun u t H1 locs ht hvm hw hB hz1 hk1 hS => ?_)
  obtain ⟨hP1, hD1⟩ := hB
  rw [ht] at hP1
  obtain ⟨hP, hD⟩ := va_join (wr := [(h0, .inr (2, [.ref q1, .ref q2, .ref q3, .ref q5, .ref q7, .ref q8, .ref q9, .int 0, .int 0, .int 0, .long 0])), (q1, .inl (ar 0, 6, .inl (fun _ => 0))), (q2, .inl (ar 4, 6, .inr (.inr (.inr (.inr (fun _ => none)))))), (q3, .inr (4, [.ref q4, .int 0])), (q4, .inl (ar 0, 8, .inl (fun _ => 0))), (q5, .inr (4, [.ref q6, .int 0])), (q6, .inl (ar 0, 8, .inl (fun _ => 0))), (q7, .inr (0, [.ref (z 0), .int 0, .int 0])), (q8, .inr (0, [.ref (z 0), .int 0, .int 0])), (q9, .inl (ar 0, 72, .inl (fun _ => 0)))]) (w1 := [(q11, .inr (1, [.null, .null, .int (-1), .null]))]) hP hD [10] [0, 1, 2, 3, 4, 5, 6, 7, 8, 9] rfl rfl (by decide) (by decide) hk1 hFc hP1 hD1
  generalize H1 = H at hP hS ⊢
  have hP : va_P (dC, dI) x_cl [(h0, .inr (2, [.ref q1, .ref q2, .ref q3, .ref q5, .ref q7, .ref q8, .ref q9, .int 0, .int 0, .int 0, .long 0])), (q1, .inl (ar 0, 6, .inl (fun _ => 0))), (q2, .inl (ar 4, 6, .inr (.inr (.inr (.inr (fun _ => none)))))), (q3, .inr (4, [.ref q4, .int 0])), (q4, .inl (ar 0, 8, .inl (fun _ => 0))), (q5, .inr (4, [.ref q6, .int 0])), (q6, .inl (ar 0, 8, .inl (fun _ => 0))), (q7, .inr (0, [.ref (z 0), .int 0, .int 0])), (q8, .inr (0, [.ref (z 0), .int 0, .int 0])), (q9, .inl (ar 0, 72, .inl (fun _ => 0))), (q11, .inr (1, [.null, .null, .int (-1), .null]))] H := hP
  have hD : va_D A [(h0, .inr (2, [.ref q1, .ref q2, .ref q3, .ref q5, .ref q7, .ref q8, .ref q9, .int 0, .int 0, .int 0, .long 0])), (q1, .inl (ar 0, 6, .inl (fun _ => 0))), (q2, .inl (ar 4, 6, .inr (.inr (.inr (.inr (fun _ => none)))))), (q3, .inr (4, [.ref q4, .int 0])), (q4, .inl (ar 0, 8, .inl (fun _ => 0))), (q5, .inr (4, [.ref q6, .int 0])), (q6, .inl (ar 0, 8, .inl (fun _ => 0))), (q7, .inr (0, [.ref (z 0), .int 0, .int 0])), (q8, .inr (0, [.ref (z 0), .int 0, .int 0])), (q9, .inl (ar 0, 72, .inl (fun _ => 0))), (q11, .inr (1, [.null, .null, .int (-1), .null]))] := hD
  refine W.widen (k := 10) (n := 114) (Nat.le_of_ble_eq_true rfl) (Nat.le_of_ble_eq_true rfl) ?_
  refine va_astq hx hb hK hP hD hS 2 4 10 1 (r := ("ChannelMachine$Channel", F_Channel, 4)) rfl rfl rfl rfl (i := 0) (by unfold vp_in; decide) d_Machine_init_113 (fun H locs hP hD hS => ?_)
  have hP : va_P (dC, dI) x_cl [(h0, .inr (2, [.ref q1, .ref q2, .ref q3, .ref q5, .ref q7, .ref q8, .ref q9, .int 0, .int 0, .int 0, .long 0])), (q1, .inl (ar 0, 6, .inl (fun _ => 0))), (q2, .inl (ar 4, 6, .inr (.inr (.inr (.inr (va_up (fun _ => none) (Int32.toNatClampNeg 0) (some q11))))))), (q3, .inr (4, [.ref q4, .int 0])), (q4, .inl (ar 0, 8, .inl (fun _ => 0))), (q5, .inr (4, [.ref q6, .int 0])), (q6, .inl (ar 0, 8, .inl (fun _ => 0))), (q7, .inr (0, [.ref (z 0), .int 0, .int 0])), (q8, .inr (0, [.ref (z 0), .int 0, .int 0])), (q9, .inl (ar 0, 72, .inl (fun _ => 0))), (q11, .inr (1, [.null, .null, .int (-1), .null]))] H := hP
  have hD : va_D A [(h0, .inr (2, [.ref q1, .ref q2, .ref q3, .ref q5, .ref q7, .ref q8, .ref q9, .int 0, .int 0, .int 0, .long 0])), (q1, .inl (ar 0, 6, .inl (fun _ => 0))), (q2, .inl (ar 4, 6, .inr (.inr (.inr (.inr (va_up (fun _ => none) (Int32.toNatClampNeg 0) (some q11))))))), (q3, .inr (4, [.ref q4, .int 0])), (q4, .inl (ar 0, 8, .inl (fun _ => 0))), (q5, .inr (4, [.ref q6, .int 0])), (q6, .inl (ar 0, 8, .inl (fun _ => 0))), (q7, .inr (0, [.ref (z 0), .int 0, .int 0])), (q8, .inr (0, [.ref (z 0), .int 0, .int 0])), (q9, .inl (ar 0, 72, .inl (fun _ => 0))), (q11, .inr (1, [.null, .null, .int (-1), .null]))] := hD
  refine lv_iinc (v := 1) (lv' := [(1, .int 1), (0, .ref h0)]) hx hb d_Machine_init_114 hl (k := 0) rfl (by decide) (by decide) rfl (fun ls hl => ?_)
  refine lv_goto (tgt := 95) hx hb d_Machine_init_117 (by decide) ?_
  refine lv_iload_n hx hb d_Machine_init_95 rfl (lv_at hl 0 rfl) ?_
  refine lv_bipush (v := 6) hx hb d_Machine_init_96 (by decide) ?_
  refine lv_icmp_ge (tgt := 120) hx hb d_Machine_init_98 (by decide) (fun c12 => absurd c12 (by decide)) (fun _ => ?_)
  refine lv_aload_n hx hb d_Machine_init_101 rfl (lv_at hl 1 rfl) ?_
  refine va_get (D := (dC, dI)) (ci := 2) (v := .ref q2) (C := "ChannelMachine$Machine") (T := F_Machine) (N := 11) hx hb hts i_Machine hown hK hP 0 rfl rfl 1 (by decide) (hts _ k_152) (fun _ h9 => h9) rfl d_Machine_init_102 ?_
  refine lv_iload_n hx hb d_Machine_init_105 rfl (lv_at hl 0 rfl) ?_
  refine va_new (ci := 1) (fs := [.null, .null, .int 0, .null]) (C := "ChannelMachine$Channel") (T := F_Channel) (N := 4) hx hb hts i_Channel t_Channel t_Channel_ok hown (hts _ k_83) (hts _ k_126) (hts _ k_8) hK hP hD hS hA rfl (fun j hj => by rcases (show j = 0 ∨ j = 1 ∨ j = 2 ∨ j = 3 by omega) with rfl | rfl | rfl | rfl <;> rfl) (Nat.le_of_ble_eq_true rfl) (Nat.le_of_ble_eq_true rfl) d_Machine_init_106 (fun q13 H hP hD hS => ?_)
  have hP : va_P (dC, dI) x_cl [(h0, .inr (2, [.ref q1, .ref q2, .ref q3, .ref q5, .ref q7, .ref q8, .ref q9, .int 0, .int 0, .int 0, .long 0])), (q1, .inl (ar 0, 6, .inl (fun _ => 0))), (q2, .inl (ar 4, 6, .inr (.inr (.inr (.inr (va_up (fun _ => none) (Int32.toNatClampNeg 0) (some q11))))))), (q3, .inr (4, [.ref q4, .int 0])), (q4, .inl (ar 0, 8, .inl (fun _ => 0))), (q5, .inr (4, [.ref q6, .int 0])), (q6, .inl (ar 0, 8, .inl (fun _ => 0))), (q7, .inr (0, [.ref (z 0), .int 0, .int 0])), (q8, .inr (0, [.ref (z 0), .int 0, .int 0])), (q9, .inl (ar 0, 72, .inl (fun _ => 0))), (q11, .inr (1, [.null, .null, .int (-1), .null])), (q13, .inr (1, [.null, .null, .int 0, .null]))] H := hP
  have hD : va_D A [(h0, .inr (2, [.ref q1, .ref q2, .ref q3, .ref q5, .ref q7, .ref q8, .ref q9, .int 0, .int 0, .int 0, .long 0])), (q1, .inl (ar 0, 6, .inl (fun _ => 0))), (q2, .inl (ar 4, 6, .inr (.inr (.inr (.inr (va_up (fun _ => none) (Int32.toNatClampNeg 0) (some q11))))))), (q3, .inr (4, [.ref q4, .int 0])), (q4, .inl (ar 0, 8, .inl (fun _ => 0))), (q5, .inr (4, [.ref q6, .int 0])), (q6, .inl (ar 0, 8, .inl (fun _ => 0))), (q7, .inr (0, [.ref (z 0), .int 0, .int 0])), (q8, .inr (0, [.ref (z 0), .int 0, .int 0])), (q9, .inl (ar 0, 72, .inl (fun _ => 0))), (q11, .inr (1, [.null, .null, .int (-1), .null])), (q13, .inr (1, [.null, .null, .int 0, .null]))] := hD
  refine W.widen (k := 11) (n := 118) (Nat.le_of_ble_eq_true rfl) (Nat.le_of_ble_eq_true rfl) ?_
  refine lv_dup hx hb d_Machine_init_109 rfl ?_
  have hPc := hP.sub (ws' := [(q13, .inr (1, [.null, .null, .int 0, .null]))]) [11] rfl
  have hDc := hD.sub (ws' := [(q13, .inr (1, [.null, .null, .int 0, .null]))]) [11] (by decide) rfl
  have hFc := va_free (wc := [(q13, .inr (1, [.null, .null, .int 0, .null]))]) hD hS hA [11] rfl
  refine va_callv (va_runIN (As := []) (rest := [.ref q13, .int 1, .ref q2]) ⟨hx, hb, hml, hown, hts⟩ (c_Channel_init l dC dI ar N0 z q13 H.size) ⟨va_cnB 0 hts (x_good k_129) rfl rfl rfl (hU.2.1 _ kn_127) (hts _ k_8) (by decide +kernel) ⟨Nat.le_of_ble_eq_true rfl, Nat.le_of_ble_eq_true rfl⟩, rfl, hts _ k_128⟩ ⟨x_blind, fun U hU9 hW => x_pre hU9 hW hPc hDc hU hZ hS hAN hN0⟩ rfl rfl hl.1 rfl (lv_room (Nat.le_of_ble_eq_true rfl)) d_Machine_init_110 ⟨Nat.le_of_ble_eq_true rfl, Nat.le_of_ble_eq_true rfl⟩) hS (fun q _ h => hFc q h) hFc (fun u t H1 locs ht hvm hw hB hz1 hk1 hS => ?_)
  obtain ⟨hP1, hD1⟩ := hB
  rw [ht] at hP1
  obtain ⟨hP, hD⟩ := va_join (wr := [(h0, .inr (2, [.ref q1, .ref q2, .ref q3, .ref q5, .ref q7, .ref q8, .ref q9, .int 0, .int 0, .int 0, .long 0])), (q1, .inl (ar 0, 6, .inl (fun _ => 0))), (q2, .inl (ar 4, 6, .inr (.inr (.inr (.inr (va_up (fun _ => none) (Int32.toNatClampNeg 0) (some q11))))))), (q3, .inr (4, [.ref q4, .int 0])), (q4, .inl (ar 0, 8, .inl (fun _ => 0))), (q5, .inr (4, [.ref q6, .int 0])), (q6, .inl (ar 0, 8, .inl (fun _ => 0))), (q7, .inr (0, [.ref (z 0), .int 0, .int 0])), (q8, .inr (0, [.ref (z 0), .int 0, .int 0])), (q9, .inl (ar 0, 72, .inl (fun _ => 0))), (q11, .inr (1, [.null, .null, .int (-1), .null]))]) (w1 := [(q13, .inr (1, [.null, .null, .int (-1), .null]))]) hP hD [11] [0, 1, 2, 3, 4, 5, 6, 7, 8, 9, 10] rfl rfl (by decide) (by decide) hk1 hFc hP1 hD1
  generalize H1 = H at hP hS ⊢
  have hP : va_P (dC, dI) x_cl [(h0, .inr (2, [.ref q1, .ref q2, .ref q3, .ref q5, .ref q7, .ref q8, .ref q9, .int 0, .int 0, .int 0, .long 0])), (q1, .inl (ar 0, 6, .inl (fun _ => 0))), (q2, .inl (ar 4, 6, .inr (.inr (.inr (.inr (va_up (fun _ => none) (Int32.toNatClampNeg 0) (some q11))))))), (q3, .inr (4, [.ref q4, .int 0])), (q4, .inl (ar 0, 8, .inl (fun _ => 0))), (q5, .inr (4, [.ref q6, .int 0])), (q6, .inl (ar 0, 8, .inl (fun _ => 0))), (q7, .inr (0, [.ref (z 0), .int 0, .int 0])), (q8, .inr (0, [.ref (z 0), .int 0, .int 0])), (q9, .inl (ar 0, 72, .inl (fun _ => 0))), (q11, .inr (1, [.null, .null, .int (-1), .null])), (q13, .inr (1, [.null, .null, .int (-1), .null]))] H := hP
  have hD : va_D A [(h0, .inr (2, [.ref q1, .ref q2, .ref q3, .ref q5, .ref q7, .ref q8, .ref q9, .int 0, .int 0, .int 0, .long 0])), (q1, .inl (ar 0, 6, .inl (fun _ => 0))), (q2, .inl (ar 4, 6, .inr (.inr (.inr (.inr (va_up (fun _ => none) (Int32.toNatClampNeg 0) (some q11))))))), (q3, .inr (4, [.ref q4, .int 0])), (q4, .inl (ar 0, 8, .inl (fun _ => 0))), (q5, .inr (4, [.ref q6, .int 0])), (q6, .inl (ar 0, 8, .inl (fun _ => 0))), (q7, .inr (0, [.ref (z 0), .int 0, .int 0])), (q8, .inr (0, [.ref (z 0), .int 0, .int 0])), (q9, .inl (ar 0, 72, .inl (fun _ => 0))), (q11, .inr (1, [.null, .null, .int (-1), .null])), (q13, .inr (1, [.null, .null, .int (-1), .null]))] := hD
  refine W.widen (k := 11) (n := 118) (Nat.le_of_ble_eq_true rfl) (Nat.le_of_ble_eq_true rfl) ?_
  refine va_astq hx hb hK hP hD hS 2 4 11 1 (r := ("ChannelMachine$Channel", F_Channel, 4)) rfl rfl rfl rfl (i := 1) (by unfold vp_in; decide) d_Machine_init_113 (fun H locs hP hD hS => ?_)
  have hP : va_P (dC, dI) x_cl [(h0, .inr (2, [.ref q1, .ref q2, .ref q3, .ref q5, .ref q7, .ref q8, .ref q9, .int 0, .int 0, .int 0, .long 0])), (q1, .inl (ar 0, 6, .inl (fun _ => 0))), (q2, .inl (ar 4, 6, .inr (.inr (.inr (.inr (va_up (va_up (fun _ => none) (Int32.toNatClampNeg 0) (some q11)) (Int32.toNatClampNeg 1) (some q13))))))), (q3, .inr (4, [.ref q4, .int 0])), (q4, .inl (ar 0, 8, .inl (fun _ => 0))), (q5, .inr (4, [.ref q6, .int 0])), (q6, .inl (ar 0, 8, .inl (fun _ => 0))), (q7, .inr (0, [.ref (z 0), .int 0, .int 0])), (q8, .inr (0, [.ref (z 0), .int 0, .int 0])), (q9, .inl (ar 0, 72, .inl (fun _ => 0))), (q11, .inr (1, [.null, .null, .int (-1), .null])), (q13, .inr (1, [.null, .null, .int (-1), .null]))] H := hP
  have hD : va_D A [(h0, .inr (2, [.ref q1, .ref q2, .ref q3, .ref q5, .ref q7, .ref q8, .ref q9, .int 0, .int 0, .int 0, .long 0])), (q1, .inl (ar 0, 6, .inl (fun _ => 0))), (q2, .inl (ar 4, 6, .inr (.inr (.inr (.inr (va_up (va_up (fun _ => none) (Int32.toNatClampNeg 0) (some q11)) (Int32.toNatClampNeg 1) (some q13))))))), (q3, .inr (4, [.ref q4, .int 0])), (q4, .inl (ar 0, 8, .inl (fun _ => 0))), (q5, .inr (4, [.ref q6, .int 0])), (q6, .inl (ar 0, 8, .inl (fun _ => 0))), (q7, .inr (0, [.ref (z 0), .int 0, .int 0])), (q8, .inr (0, [.ref (z 0), .int 0, .int 0])), (q9, .inl (ar 0, 72, .inl (fun _ => 0))), (q11, .inr (1, [.null, .null, .int (-1), .null])), (q13, .inr (1, [.null, .null, .int (-1), .null]))] := hD
  refine lv_iinc (v := 2) (lv' := [(1, .int 2), (0, .ref h0)]) hx hb d_Machine_init_114 hl (k := 0) rfl (by decide) (by decide) rfl (fun ls hl => ?_)
  refine lv_goto (tgt := 95) hx hb d_Machine_init_117 (by decide) ?_
  refine lv_iload_n hx hb d_Machine_init_95 rfl (lv_at hl 0 rfl) ?_
  refine lv_bipush (v := 6) hx hb d_Machine_init_96 (by decide) ?_
  refine lv_icmp_ge (tgt := 120) hx hb d_Machine_init_98 (by decide) (fun c14 => absurd c14 (by decide)) (fun _ => ?_)
  refine lv_aload_n hx hb d_Machine_init_101 rfl (lv_at hl 1 rfl) ?_
  refine va_get (D := (dC, dI)) (ci := 2) (v := .ref q2) (C := "ChannelMachine$Machine") (T := F_Machine) (N := 11) hx hb hts i_Machine hown hK hP 0 rfl rfl 1 (by decide) (hts _ k_152) (fun _ h9 => h9) rfl d_Machine_init_102 ?_
  refine lv_iload_n hx hb d_Machine_init_105 rfl (lv_at hl 0 rfl) ?_
  refine va_new (ci := 1) (fs := [.null, .null, .int 0, .null]) (C := "ChannelMachine$Channel") (T := F_Channel) (N := 4) hx hb hts i_Channel t_Channel t_Channel_ok hown (hts _ k_83) (hts _ k_126) (hts _ k_8) hK hP hD hS hA rfl (fun j hj => by rcases (show j = 0 ∨ j = 1 ∨ j = 2 ∨ j = 3 by omega) with rfl | rfl | rfl | rfl <;> rfl) (Nat.le_of_ble_eq_true rfl) (Nat.le_of_ble_eq_true rfl) d_Machine_init_106 (fun q15 H hP hD hS => ?_)
  have hP : va_P (dC, dI) x_cl [(h0, .inr (2, [.ref q1, .ref q2, .ref q3, .ref q5, .ref q7, .ref q8, .ref q9, .int 0, .int 0, .int 0, .long 0])), (q1, .inl (ar 0, 6, .inl (fun _ => 0))), (q2, .inl (ar 4, 6, .inr (.inr (.inr (.inr (va_up (va_up (fun _ => none) (Int32.toNatClampNeg 0) (some q11)) (Int32.toNatClampNeg 1) (some q13))))))), (q3, .inr (4, [.ref q4, .int 0])), (q4, .inl (ar 0, 8, .inl (fun _ => 0))), (q5, .inr (4, [.ref q6, .int 0])), (q6, .inl (ar 0, 8, .inl (fun _ => 0))), (q7, .inr (0, [.ref (z 0), .int 0, .int 0])), (q8, .inr (0, [.ref (z 0), .int 0, .int 0])), (q9, .inl (ar 0, 72, .inl (fun _ => 0))), (q11, .inr (1, [.null, .null, .int (-1), .null])), (q13, .inr (1, [.null, .null, .int (-1), .null])), (q15, .inr (1, [.null, .null, .int 0, .null]))] H := hP
  have hD : va_D A [(h0, .inr (2, [.ref q1, .ref q2, .ref q3, .ref q5, .ref q7, .ref q8, .ref q9, .int 0, .int 0, .int 0, .long 0])), (q1, .inl (ar 0, 6, .inl (fun _ => 0))), (q2, .inl (ar 4, 6, .inr (.inr (.inr (.inr (va_up (va_up (fun _ => none) (Int32.toNatClampNeg 0) (some q11)) (Int32.toNatClampNeg 1) (some q13))))))), (q3, .inr (4, [.ref q4, .int 0])), (q4, .inl (ar 0, 8, .inl (fun _ => 0))), (q5, .inr (4, [.ref q6, .int 0])), (q6, .inl (ar 0, 8, .inl (fun _ => 0))), (q7, .inr (0, [.ref (z 0), .int 0, .int 0])), (q8, .inr (0, [.ref (z 0), .int 0, .int 0])), (q9, .inl (ar 0, 72, .inl (fun _ => 0))), (q11, .inr (1, [.null, .null, .int (-1), .null])), (q13, .inr (1, [.null, .null, .int (-1), .null])), (q15, .inr (1, [.null, .null, .int 0, .null]))] := hD
  refine W.widen (k := 12) (n := 122) (Nat.le_of_ble_eq_true rfl) (Nat.le_of_ble_eq_true rfl) ?_
  refine lv_dup hx hb d_Machine_init_109 rfl ?_
  have hPc := hP.sub (ws' := [(q15, .inr (1, [.null, .null, .int 0, .null]))]) [12] rfl
  have hDc := hD.sub (ws' := [(q15, .inr (1, [.null, .null, .int 0, .null]))]) [12] (by decide) rfl
  have hFc := va_free (wc := [(q15, .inr (1, [.null, .null, .int 0, .null]))]) hD hS hA [12] rfl
  refine va_callv (va_runIN (As := []) (rest := [.ref q15, .int 2, .ref q2]) ⟨hx, hb, hml, hown, hts⟩ (c_Channel_init l dC dI ar N0 z q15 H.size) ⟨va_cnB 0 hts (x_good k_129) rfl rfl rfl (hU.2.1 _ kn_127) (hts _ k_8) (by decide +kernel) ⟨Nat.le_of_ble_eq_true rfl, Nat.le_of_ble_eq_true rfl⟩, rfl, hts _ k_128⟩ ⟨x_blind, fun U hU9 hW => x_pre hU9 hW hPc hDc hU hZ hS hAN hN0⟩ rfl rfl hl.1 rfl (lv_room (Nat.le_of_ble_eq_true rfl)) d_Machine_init_110 ⟨Nat.le_of_ble_eq_true rfl, Nat.le_of_ble_eq_true rfl⟩) hS (fun q _ h => hFc q h) hFc (fun u t H1 locs ht hvm hw hB hz1 hk1 hS => ?_)
  obtain ⟨hP1, hD1⟩ := hB
  rw [ht] at hP1
  obtain ⟨hP, hD⟩ := va_join (wr := [(h0, .inr (2, [.ref q1, .ref q2, .ref q3, .ref q5, .ref q7, .ref q8, .ref q9, .int 0, .int 0, .int 0, .long 0])), (q1, .inl (ar 0, 6, .inl (fun _ => 0))), (q2, .inl (ar 4, 6, .inr (.inr (.inr (.inr (va_up (va_up (fun _ => none) (Int32.toNatClampNeg 0) (some q11)) (Int32.toNatClampNeg 1) (some q13))))))), (q3, .inr (4, [.ref q4, .int 0])), (q4, .inl (ar 0, 8, .inl (fun _ => 0))), (q5, .inr (4, [.ref q6, .int 0])), (q6, .inl (ar 0, 8, .inl (fun _ => 0))), (q7, .inr (0, [.ref (z 0), .int 0, .int 0])), (q8, .inr (0, [.ref (z 0), .int 0, .int 0])), (q9, .inl (ar 0, 72, .inl (fun _ => 0))), (q11, .inr (1, [.null, .null, .int (-1), .null])), (q13, .inr (1, [.null, .null, .int (-1), .null]))]) (w1 := [(q15, .inr (1, [.null, .null, .int (-1), .null]))]) hP hD [12] [0, 1, 2, 3, 4, 5, 6, 7, 8, 9, 10, 11] rfl rfl (by decide) (by decide) hk1 hFc hP1 hD1
  generalize H1 = H at hP hS ⊢
  have hP : va_P (dC, dI) x_cl [(h0, .inr (2, [.ref q1, .ref q2, .ref q3, .ref q5, .ref q7, .ref q8, .ref q9, .int 0, .int 0, .int 0, .long 0])), (q1, .inl (ar 0, 6, .inl (fun _ => 0))), (q2, .inl (ar 4, 6, .inr (.inr (.inr (.inr (va_up (va_up (fun _ => none) (Int32.toNatClampNeg 0) (some q11)) (Int32.toNatClampNeg 1) (some q13))))))), (q3, .inr (4, [.ref q4, .int 0])), (q4, .inl (ar 0, 8, .inl (fun _ => 0))), (q5, .inr (4, [.ref q6, .int 0])), (q6, .inl (ar 0, 8, .inl (fun _ => 0))), (q7, .inr (0, [.ref (z 0), .int 0, .int 0])), (q8, .inr (0, [.ref (z 0), .int 0, .int 0])), (q9, .inl (ar 0, 72, .inl (fun _ => 0))), (q11, .inr (1, [.null, .null, .int (-1), .null])), (q13, .inr (1, [.null, .null, .int (-1), .null])), (q15, .inr (1, [.null, .null, .int (-1), .null]))] H := hP
  have hD : va_D A [(h0, .inr (2, [.ref q1, .ref q2, .ref q3, .ref q5, .ref q7, .ref q8, .ref q9, .int 0, .int 0, .int 0, .long 0])), (q1, .inl (ar 0, 6, .inl (fun _ => 0))), (q2, .inl (ar 4, 6, .inr (.inr (.inr (.inr (va_up (va_up (fun _ => none) (Int32.toNatClampNeg 0) (some q11)) (Int32.toNatClampNeg 1) (some q13))))))), (q3, .inr (4, [.ref q4, .int 0])), (q4, .inl (ar 0, 8, .inl (fun _ => 0))), (q5, .inr (4, [.ref q6, .int 0])), (q6, .inl (ar 0, 8, .inl (fun _ => 0))), (q7, .inr (0, [.ref (z 0), .int 0, .int 0])), (q8, .inr (0, [.ref (z 0), .int 0, .int 0])), (q9, .inl (ar 0, 72, .inl (fun _ => 0))), (q11, .inr (1, [.null, .null, .int (-1), .null])), (q13, .inr (1, [.null, .null, .int (-1), .null])), (q15, .inr (1, [.null, .null, .int (-1), .null]))] := hD
  refine W.widen (k := 12) (n := 122) (Nat.le_of_ble_eq_true rfl) (Nat.le_of_ble_eq_true rfl) ?_
  refine va_astq hx hb hK hP hD hS 2 4 12 1 (r := ("ChannelMachine$Channel", F_Channel, 4)) rfl rfl rfl rfl (i := 2) (by unfold vp_in; decide) d_Machine_init_113 (fun H locs hP hD hS => ?_)
  have hP : va_P (dC, dI) x_cl [(h0, .inr (2, [.ref q1, .ref q2, .ref q3, .ref q5, .ref q7, .ref q8, .ref q9, .int 0, .int 0, .int 0, .long 0])), (q1, .inl (ar 0, 6, .inl (fun _ => 0))), (q2, .inl (ar 4, 6, .inr (.inr (.inr (.inr (va_up (va_up (va_up (fun _ => none) (Int32.toNatClampNeg 0) (some q11)) (Int32.toNatClampNeg 1) (some q13)) (Int32.toNatClampNeg 2) (some q15))))))), (q3, .inr (4, [.ref q4, .int 0])), (q4, .inl (ar 0, 8, .inl (fun _ => 0))), (q5, .inr (4, [.ref q6, .int 0])), (q6, .inl (ar 0, 8, .inl (fun _ => 0))), (q7, .inr (0, [.ref (z 0), .int 0, .int 0])), (q8, .inr (0, [.ref (z 0), .int 0, .int 0])), (q9, .inl (ar 0, 72, .inl (fun _ => 0))), (q11, .inr (1, [.null, .null, .int (-1), .null])), (q13, .inr (1, [.null, .null, .int (-1), .null])), (q15, .inr (1, [.null, .null, .int (-1), .null]))] H := hP
  have hD : va_D A [(h0, .inr (2, [.ref q1, .ref q2, .ref q3, .ref q5, .ref q7, .ref q8, .ref q9, .int 0, .int 0, .int 0, .long 0])), (q1, .inl (ar 0, 6, .inl (fun _ => 0))), (q2, .inl (ar 4, 6, .inr (.inr (.inr (.inr (va_up (va_up (va_up (fun _ => none) (Int32.toNatClampNeg 0) (some q11)) (Int32.toNatClampNeg 1) (some q13)) (Int32.toNatClampNeg 2) (some q15))))))), (q3, .inr (4, [.ref q4, .int 0])), (q4, .inl (ar 0, 8, .inl (fun _ => 0))), (q5, .inr (4, [.ref q6, .int 0])), (q6, .inl (ar 0, 8, .inl (fun _ => 0))), (q7, .inr (0, [.ref (z 0), .int 0, .int 0])), (q8, .inr (0, [.ref (z 0), .int 0, .int 0])), (q9, .inl (ar 0, 72, .inl (fun _ => 0))), (q11, .inr (1, [.null, .null, .int (-1), .null])), (q13, .inr (1, [.null, .null, .int (-1), .null])), (q15, .inr (1, [.null, .null, .int (-1), .null]))] := hD
  refine lv_iinc (v := 3) (lv' := [(1, .int 3), (0, .ref h0)]) hx hb d_Machine_init_114 hl (k := 0) rfl (by decide) (by decide) rfl (fun ls hl => ?_)
  refine lv_goto (tgt := 95) hx hb d_Machine_init_117 (by decide) ?_
  refine lv_iload_n hx hb d_Machine_init_95 rfl (lv_at hl 0 rfl) ?_
  refine lv_bipush (v := 6) hx hb d_Machine_init_96 (by decide) ?_
  refine lv_icmp_ge (tgt := 120) hx hb d_Machine_init_98 (by decide) (fun c16 => absurd c16 (by decide)) (fun _ => ?_)
  refine lv_aload_n hx hb d_Machine_init_101 rfl (lv_at hl 1 rfl) ?_
  refine va_get (D := (dC, dI)) (ci := 2) (v := .ref q2) (C := "ChannelMachine$Machine") (T := F_Machine) (N := 11) hx hb hts i_Machine hown hK hP 0 rfl rfl 1 (by decide) (hts _ k_152) (fun _ h9 => h9) rfl d_Machine_init_102 ?_
  refine lv_iload_n hx hb d_Machine_init_105 rfl (lv_at hl 0 rfl) ?_
  refine va_new (ci := 1) (fs := [.null, .null, .int 0, .null]) (C := "ChannelMachine$Channel") (T := F_Channel) (N := 4) hx hb hts i_Channel t_Channel t_Channel_ok hown (hts _ k_83) (hts _ k_126) (hts _ k_8) hK hP hD hS hA rfl (fun j hj => by rcases (show j = 0 ∨ j = 1 ∨ j = 2 ∨ j = 3 by omega) with rfl | rfl | rfl | rfl <;> rfl) (Nat.le_of_ble_eq_true rfl) (Nat.le_of_ble_eq_true rfl) d_Machine_init_106 (fun q17 H hP hD hS => ?_)
  have hP : va_P (dC, dI) x_cl [(h0, .inr (2, [.ref q1, .ref q2, .ref q3, .ref q5, .ref q7, .ref q8, .ref q9, .int 0, .int 0, .int 0, .long 0])), (q1, .inl (ar 0, 6, .inl (fun _ => 0))), (q2, .inl (ar 4, 6, .inr (.inr (.inr (.inr (va_up (va_up (va_up (fun _ => none) (Int32.toNatClampNeg 0) (some q11)) (Int32.toNatClampNeg 1) (some q13)) (Int32.toNatClampNeg 2) (some q15))))))), (q3, .inr (4, [.ref q4, .int 0])), (q4, .inl (ar 0, 8, .inl (fun _ => 0))), (q5, .inr (4, [.ref q6, .int 0])), (q6, .inl (ar 0, 8, .inl (fun _ => 0))), (q7, .inr (0, [.ref (z 0), .int 0, .int 0])), (q8, .inr (0, [.ref (z 0), .int 0, .int 0])), (q9, .inl (ar 0, 72, .inl (fun _ => 0))), (q11, .inr (1, [.null, .null, .int (-1), .null])), (q13, .inr (1, [.null, .null, .int (-1), .null])), (q15, .inr (1, [.null, .null, .int (-1), .null])), (q17, .inr (1, [.null, .null, .int 0, .null]))] H := hP
  have hD : va_D A [(h0, .inr (2, [.ref q1, .ref q2, .ref q3, .ref q5, .ref q7, .ref q8, .ref q9, .int 0, .int 0, .int 0, .long 0])), (q1, .inl (ar 0, 6, .inl (fun _ => 0))), (q2, .inl (ar 4, 6, .inr (.inr (.inr (.inr (va_up (va_up (va_up (fun _ => none) (Int32.toNatClampNeg 0) (some q11)) (Int32.toNatClampNeg 1) (some q13)) (Int32.toNatClampNeg 2) (some q15))))))), (q3, .inr (4, [.ref q4, .int 0])), (q4, .inl (ar 0, 8, .inl (fun _ => 0))), (q5, .inr (4, [.ref q6, .int 0])), (q6, .inl (ar 0, 8, .inl (fun _ => 0))), (q7, .inr (0, [.ref (z 0), .int 0, .int 0])), (q8, .inr (0, [.ref (z 0), .int 0, .int 0])), (q9, .inl (ar 0, 72, .inl (fun _ => 0))), (q11, .inr (1, [.null, .null, .int (-1), .null])), (q13, .inr (1, [.null, .null, .int (-1), .null])), (q15, .inr (1, [.null, .null, .int (-1), .null])), (q17, .inr (1, [.null, .null, .int 0, .null]))] := hD
  refine W.widen (k := 13) (n := 126) (Nat.le_of_ble_eq_true rfl) (Nat.le_of_ble_eq_true rfl) ?_
  refine lv_dup hx hb d_Machine_init_109 rfl ?_
  have hPc := hP.sub (ws' := [(q17, .inr (1, [.null, .null, .int 0, .null]))]) [13] rfl
  have hDc := hD.sub (ws' := [(q17, .inr (1, [.null, .null, .int 0, .null]))]) [13] (by decide) rfl
  have hFc := va_free (wc := [(q17, .inr (1, [.null, .null, .int 0, .null]))]) hD hS hA [13] rfl
  refine va_callv (va_runIN (As := []) (rest := [.ref q17, .int 3, .ref q2]) ⟨hx, hb, hml, hown, hts⟩ (c_Channel_init l dC dI ar N0 z q17 H.size) ⟨va_cnB 0 hts (x_good k_129) rfl rfl rfl (hU.2.1 _ kn_127) (hts _ k_8) (by decide +kernel) ⟨Nat.le_of_ble_eq_true rfl, Nat.le_of_ble_eq_true rfl⟩, rfl, hts _ k_128⟩ ⟨x_blind, fun U hU9 hW => x_pre hU9 hW hPc hDc hU hZ hS hAN hN0⟩ rfl rfl hl.1 rfl (lv_room (Nat.le_of_ble_eq_true rfl)) d_Machine_init_110 ⟨Nat.le_of_ble_eq_true rfl, Nat.le_of_ble_eq_true rfl⟩) hS (fun q _ h => hFc q h) hFc (fun u t H1 locs ht hvm hw hB hz1 hk1 hS => ?_)
  obtain ⟨hP1, hD1⟩ := hB
  rw [ht] at hP1
  obtain ⟨hP, hD⟩ := va_join (wr := [(h0, .inr (2, [.ref q1, .ref q2, .ref q3, .ref q5, .ref q7, .ref q8, .ref q9, .int 0, .int 0, .int 0, .long 0])), (q1, .inl (ar 0, 6, .inl (fun _ => 0))), (q2, .inl (ar 4, 6, .inr (.inr (.inr (.inr (va_up (va_up (va_up (fun _ => none) (Int32.toNatClampNeg 0) (some q11)) (Int32.toNatClampNeg 1) (some q13)) (Int32.toNatClampNeg 2) (some q15))))))), (q3, .inr (4, [.ref q4, .int 0])), (q4, .inl (ar 0, 8, .inl (fun _ => 0))), (q5, .inr (4, [.ref q6, .int 0])), (q6, .inl (ar 0, 8, .inl (fun _ => 0))), (q7, .inr (0, [.ref (z 0), .int 0, .int 0])), (q8, .inr (0, [.ref (z 0), .int 0, .int 0])), (q9, .inl (ar 0, 72, .inl (fun _ => 0))), (q11, .inr (1, [.null, .null, .int (-1), .null])), (q13, .inr (1, [.null, .null, .int (-1), .null])), (q15, .inr (1, [.null, .null, .int (-1), .null]))]) (w1 := [(q17, .inr (1, [.null, .null, .int (-1), .null]))]) hP hD [13] [0, 1, 2, 3, 4, 5, 6, 7, 8, 9, 10, 11, 12] rfl rfl (by decide) (by decide) hk1 hFc hP1 hD1
  generalize H1 = H at hP hS ⊢
  have hP : va_P (dC, dI) x_cl [(h0, .inr (2, [.ref q1, .ref q2, .ref q3, .ref q5, .ref q7, .ref q8, .ref q9, .int 0, .int 0, .int 0, .long 0])), (q1, .inl (ar 0, 6, .inl (fun _ => 0))), (q2, .inl (ar 4, 6, .inr (.inr (.inr (.inr (va_up (va_up (va_up (fun _ => none) (Int32.toNatClampNeg 0) (some q11)) (Int32.toNatClampNeg 1) (some q13)) (Int32.toNatClampNeg 2) (some q15))))))), (q3, .inr (4, [.ref q4, .int 0])), (q4, .inl (ar 0, 8, .inl (fun _ => 0))), (q5, .inr (4, [.ref q6, .int 0])), (q6, .inl (ar 0, 8, .inl (fun _ => 0))), (q7, .inr (0, [.ref (z 0), .int 0, .int 0])), (q8, .inr (0, [.ref (z 0), .int 0, .int 0])), (q9, .inl (ar 0, 72, .inl (fun _ => 0))), (q11, .inr (1, [.null, .null, .int (-1), .null])), (q13, .inr (1, [.null, .null, .int (-1), .null])), (q15, .inr (1, [.null, .null, .int (-1), .null])), (q17, .inr (1, [.null, .null, .int (-1), .null]))] H := hP
  have hD : va_D A [(h0, .inr (2, [.ref q1, .ref q2, .ref q3, .ref q5, .ref q7, .ref q8, .ref q9, .int 0, .int 0, .int 0, .long 0])), (q1, .inl (ar 0, 6, .inl (fun _ => 0))), (q2, .inl (ar 4, 6, .inr (.inr (.inr (.inr (va_up (va_up (va_up (fun _ => none) (Int32.toNatClampNeg 0) (some q11)) (Int32.toNatClampNeg 1) (some q13)) (Int32.toNatClampNeg 2) (some q15))))))), (q3, .inr (4, [.ref q4, .int 0])), (q4, .inl (ar 0, 8, .inl (fun _ => 0))), (q5, .inr (4, [.ref q6, .int 0])), (q6, .inl (ar 0, 8, .inl (fun _ => 0))), (q7, .inr (0, [.ref (z 0), .int 0, .int 0])), (q8, .inr (0, [.ref (z 0), .int 0, .int 0])), (q9, .inl (ar 0, 72, .inl (fun _ => 0))), (q11, .inr (1, [.null, .null, .int (-1), .null])), (q13, .inr (1, [.null, .null, .int (-1), .null])), (q15, .inr (1, [.null, .null, .int (-1), .null])), (q17, .inr (1, [.null, .null, .int (-1), .null]))] := hD
  refine W.widen (k := 13) (n := 126) (Nat.le_of_ble_eq_true rfl) (Nat.le_of_ble_eq_true rfl) ?_
  refine va_astq hx hb hK hP hD hS 2 4 13 1 (r := ("ChannelMachine$Channel", F_Channel, 4)) rfl rfl rfl rfl (i := 3) (by unfold vp_in; decide) d_Machine_init_113 (fun H locs hP hD hS => ?_)
  have hP : va_P (dC, dI) x_cl [(h0, .inr (2, [.ref q1, .ref q2, .ref q3, .ref q5, .ref q7, .ref q8, .ref q9, .int 0, .int 0, .int 0, .long 0])), (q1, .inl (ar 0, 6, .inl (fun _ => 0))), (q2, .inl (ar 4, 6, .inr (.inr (.inr (.inr (va_up (va_up (va_up (va_up (fun _ => none) (Int32.toNatClampNeg 0) (some q11)) (Int32.toNatClampNeg 1) (some q13)) (Int32.toNatClampNeg 2) (some q15)) (Int32.toNatClampNeg 3) (some q17))))))), (q3, .inr (4, [.ref q4, .int 0])), (q4, .inl (ar 0, 8, .inl (fun _ => 0))), (q5, .inr (4, [.ref q6, .int 0])), (q6, .inl (ar 0, 8, .inl (fun _ => 0))), (q7, .inr (0, [.ref (z 0), .int 0, .int 0])), (q8, .inr (0, [.ref (z 0), .int 0, .int 0])), (q9, .inl (ar 0, 72, .inl (fun _ => 0))), (q11, .inr (1, [.null, .null, .int (-1), .null])), (q13, .inr (1, [.null, .null, .int (-1), .null])), (q15, .inr (1, [.null, .null, .int (-1), .null])), (q17, .inr (1, [.null, .null, .int (-1), .null]))] H := hP
  have hD : va_D A [(h0, .inr (2, [.ref q1, .ref q2, .ref q3, .ref q5, .ref q7, .ref q8, .ref q9, .int 0, .int 0, .int 0, .long 0])), (q1, .inl (ar 0, 6, .inl (fun _ => 0))), (q2, .inl (ar 4, 6, .inr (.inr (.inr (.inr (va_up (va_up (va_up (va_up (fun _ => none) (Int32.toNatClampNeg 0) (some q11)) (Int32.toNatClampNeg 1) (some q13)) (Int32.toNatClampNeg 2) (some q15)) (Int32.toNatClampNeg 3) (some q17))))))), (q3, .inr (4, [.ref q4, .int 0])), (q4, .inl (ar 0, 8, .inl (fun _ => 0))), (q5, .inr (4, [.ref q6, .int 0])), (q6, .inl (ar 0, 8, .inl (fun _ => 0))), (q7, .inr (0, [.ref (z 0), .int 0, .int 0])), (q8, .inr (0, [.ref (z 0), .int 0, .int 0])), (q9, .inl (ar 0, 72, .inl (fun _ => 0))), (q11, .inr (1, [.null, .null, .int (-1), .null])), (q13, .inr (1, [.null, .null, .int (-1), .null])), (q15, .inr (1, [.null, .null, .int (-1), .null])), (q17, .inr (1, [.null, .null, .int (-1), .null]))] := hD
  refine lv_iinc (v := 4) (lv' := [(1, .int 4), (0, .ref h0)]) hx hb d_Machine_init_114 hl (k := 0) rfl (by decide) (by decide) rfl (fun ls hl => ?_)
  refine lv_goto (tgt := 95) hx hb d_Machine_init_117 (by decide) ?_
  refine lv_iload_n hx hb d_Machine_init_95 rfl (lv_at hl 0 rfl) ?_
  refine lv_bipush (v := 6) hx hb d_Machine_init_96 (by decide) ?_
  refine lv_icmp_ge (tgt := 120) hx hb d_Machine_init_98 (by decide) (fun c18 => absurd c18 (by decide)) (fun _ => ?_)
  refine lv_aload_n hx hb d_Machine_init_101 rfl (lv_at hl 1 rfl) ?_
  refine va_get (D := (dC, dI)) (ci := 2) (v := .ref q2) (C := "ChannelMachine$Machine") (T := F_Machine) (N := 11) hx hb hts i_Machine hown hK hP 0 rfl rfl 1 (by decide) (hts _ k_152) (fun _ h9 => h9) rfl d_Machine_init_102 ?_
  refine lv_iload_n hx hb d_Machine_init_105 rfl (lv_at hl 0 rfl) ?_
  refine va_new (ci := 1) (fs := [.null, .null, .int 0, .null]) (C := "ChannelMachine$Channel") (T := F_Channel) (N := 4) hx hb hts i_Channel t_Channel t_Channel_ok hown (hts _ k_83) (hts _ k_126) (hts _ k_8) hK hP hD hS hA rfl (fun j hj => by rcases (show j = 0 ∨ j = 1 ∨ j = 2 ∨ j = 3 by omega) with rfl | rfl | rfl | rfl <;> rfl) (Nat.le_of_ble_eq_true rfl) (Nat.le_of_ble_eq_true rfl) d_Machine_init_106 (fun q19 H hP hD hS => ?_)
  have hP : va_P (dC, dI) x_cl [(h0, .inr (2, [.ref q1, .ref q2, .ref q3, .ref q5, .ref q7, .ref q8, .ref q9, .int 0, .int 0, .int 0, .long 0])), (q1, .inl (ar 0, 6, .inl (fun _ => 0))), (q2, .inl (ar 4, 6, .inr (.inr (.inr (.inr (va_up (va_up (va_up (va_up (fun _ => none) (Int32.toNatClampNeg 0) (some q11)) (Int32.toNatClampNeg 1) (some q13)) (Int32.toNatClampNeg 2) (some q15)) (Int32.toNatClampNeg 3) (some q17))))))), (q3, .inr (4, [.ref q4, .int 0])), (q4, .inl (ar 0, 8, .inl (fun _ => 0))), (q5, .inr (4, [.ref q6, .int 0])), (q6, .inl (ar 0, 8, .inl (fun _ => 0))), (q7, .inr (0, [.ref (z 0), .int 0, .int 0])), (q8, .inr (0, [.ref (z 0), .int 0, .int 0])), (q9, .inl (ar 0, 72, .inl (fun _ => 0))), (q11, .inr (1, [.null, .null, .int (-1), .null])), (q13, .inr (1, [.null, .null, .int (-1), .null])), (q15, .inr (1, [.null, .null, .int (-1), .null])), (q17, .inr (1, [.null, .null, .int (-1), .null])), (q19, .inr (1, [.null, .null, .int 0, .null]))] H := hP
  have hD : va_D A [(h0, .inr (2, [.ref q1, .ref q2, .ref q3, .ref q5, .ref q7, .ref q8, .ref q9, .int 0, .int 0, .int 0, .long 0])), (q1, .inl (ar 0, 6, .inl (fun _ => 0))), (q2, .inl (ar 4, 6, .inr (.inr (.inr (.inr (va_up (va_up (va_up (va_up (fun _ => none) (Int32.toNatClampNeg 0) (some q11)) (Int32.toNatClampNeg 1) (some q13)) (Int32.toNatClampNeg 2) (some q15)) (Int32.toNatClampNeg 3) (some q17))))))), (q3, .inr (4, [.ref q4, .int 0])), (q4, .inl (ar 0, 8, .inl (fun _ => 0))), (q5, .inr (4, [.ref q6, .int 0])), (q6, .inl (ar 0, 8, .inl (fun _ => 0))), (q7, .inr (0, [.ref (z 0), .int 0, .int 0])), (q8, .inr (0, [.ref (z 0), .int 0, .int 0])), (q9, .inl (ar 0, 72, .inl (fun _ => 0))), (q11, .inr (1, [.null, .null, .int (-1), .null])), (q13, .inr (1, [.null, .null, .int (-1), .null])), (q15, .inr (1, [.null, .null, .int (-1), .null])), (q17, .inr (1, [.null, .null, .int (-1), .null])), (q19, .inr (1, [.null, .null, .int 0, .null]))] := hD
  refine W.widen (k := 14) (n := 130) (Nat.le_of_ble_eq_true rfl) (Nat.le_of_ble_eq_true rfl) ?_
  refine lv_dup hx hb d_Machine_init_109 rfl ?_
  have hPc := hP.sub (ws' := [(q19, .inr (1, [.null, .null, .int 0, .null]))]) [14] rfl
  have hDc := hD.sub (ws' := [(q19, .inr (1, [.null, .null, .int 0, .null]))]) [14] (by decide) rfl
  have hFc := va_free (wc := [(q19, .inr (1, [.null, .null, .int 0, .null]))]) hD hS hA [14] rfl
  refine va_callv (va_runIN (As := []) (rest := [.ref q19, .int 4, .ref q2]) ⟨hx, hb, hml, hown, hts⟩ (c_Channel_init l dC dI ar N0 z q19 H.size) ⟨va_cnB 0 hts (x_good k_129) rfl rfl rfl (hU.2.1 _ kn_127) (hts _ k_8) (by decide +kernel) ⟨Nat.le_of_ble_eq_true rfl, Nat.le_of_ble_eq_true rfl⟩, rfl, hts _ k_128⟩ ⟨x_blind, fun U hU9 hW => x_pre hU9 hW hPc hDc hU hZ hS hAN hN0⟩ rfl rfl hl.1 rfl (lv_room (Nat.le_of_ble_eq_true rfl)) d_Machine_init_110 ⟨Nat.le_of_ble_eq_true rfl, Nat.le_of_ble_eq_true rfl⟩) hS (fun q _ h => hFc q h) hFc (fun u t H1 locs ht hvm hw hB hz1 hk1 hS => ?_)
  obtain ⟨hP1, hD1⟩ := hB
  rw [ht] at hP1
  obtain ⟨hP, hD⟩ := va_join (wr := [(h0, .inr (2, [.ref q1, .ref q2, .ref q3, .ref q5, .ref q7, .ref q8, .ref q9, .int 0, .int 0, .int 0, .long 0])), (q1, .inl (ar 0, 6, .inl (fun _ => 0))), (q2, .inl (ar 4, 6, .inr (.inr (.inr (.inr (va_up (va_up (va_up (va_up (fun _ => none) (Int32.toNatClampNeg 0) (some q11)) (Int32.toNatClampNeg 1) (some q13)) (Int32.toNatClampNeg 2) (some q15)) (Int32.toNatClampNeg 3) (some q17))))))), (q3, .inr (4, [.ref q4, .int 0])), (q4, .inl (ar 0, 8, .inl (fun _ => 0))), (q5, .inr (4, [.ref q6, .int 0])), (q6, .inl (ar 0, 8, .inl (fun _ => 0))), (q7, .inr (0, [.ref (z 0), .int 0, .int 0])), (q8, .inr (0, [.ref (z 0), .int 0, .int 0])), (q9, .inl (ar 0, 72, .inl (fun _ => 0))), (q11, .inr (1, [.null, .null, .int (-1), .null])), (q13, .inr (1, [.null, .null, .int (-1), .null])), (q15, .inr (1, [.null, .null, .int (-1), .null])), (q17, .inr (1, [.null, .null, .int (-1), .null]))]) (w1 := [(q19, .inr (1, [.null, .null, .int (-1), .null]))]) hP hD [14] [0, 1, 2, 3, 4, 5, 6, 7, 8, 9, 10, 11, 12, 13] rfl rfl (by decide) (by decide) hk1 hFc hP1 hD1
  generalize H1 = H at hP hS ⊢
  have hP : va_P (dC, dI) x_cl [(h0, .inr (2, [.ref q1, .ref q2, .ref q3, .ref q5, .ref q7, .ref q8, .ref q9, .int 0, .int 0, .int 0, .long 0])), (q1, .inl (ar 0, 6, .inl (fun _ => 0))), (q2, .inl (ar 4, 6, .inr (.inr (.inr (.inr (va_up (va_up (va_up (va_up (fun _ => none) (Int32.toNatClampNeg 0) (some q11)) (Int32.toNatClampNeg 1) (some q13)) (Int32.toNatClampNeg 2) (some q15)) (Int32.toNatClampNeg 3) (some q17))))))), (q3, .inr (4, [.ref q4, .int 0])), (q4, .inl (ar 0, 8, .inl (fun _ => 0))), (q5, .inr (4, [.ref q6, .int 0])), (q6, .inl (ar 0, 8, .inl (fun _ => 0))), (q7, .inr (0, [.ref (z 0), .int 0, .int 0])), (q8, .inr (0, [.ref (z 0), .int 0, .int 0])), (q9, .inl (ar 0, 72, .inl (fun _ => 0))), (q11, .inr (1, [.null, .null, .int (-1), .null])), (q13, .inr (1, [.null, .null, .int (-1), .null])), (q15, .inr (1, [.null, .null, .int (-1), .null])), (q17, .inr (1, [.null, .null, .int (-1), .null])), (q19, .inr (1, [.null, .null, .int (-1), .null]))] H := hP
  have hD : va_D A [(h0, .inr (2, [.ref q1, .ref q2, .ref q3, .ref q5, .ref q7, .ref q8, .ref q9, .int 0, .int 0, .int 0, .long 0])), (q1, .inl (ar 0, 6, .inl (fun _ => 0))), (q2, .inl (ar 4, 6, .inr (.inr (.inr (.inr (va_up (va_up (va_up (va_up (fun _ => none) (Int32.toNatClampNeg 0) (some q11)) (Int32.toNatClampNeg 1) (some q13)) (Int32.toNatClampNeg 2) (some q15)) (Int32.toNatClampNeg 3) (some q17))))))), (q3, .inr (4, [.ref q4, .int 0])), (q4, .inl (ar 0, 8, .inl (fun _ => 0))), (q5, .inr (4, [.ref q6, .int 0])), (q6, .inl (ar 0, 8, .inl (fun _ => 0))), (q7, .inr (0, [.ref (z 0), .int 0, .int 0])), (q8, .inr (0, [.ref (z 0), .int 0, .int 0])), (q9, .inl (ar 0, 72, .inl (fun _ => 0))), (q11, .inr (1, [.null, .null, .int (-1), .null])), (q13, .inr (1, [.null, .null, .int (-1), .null])), (q15, .inr (1, [.null, .null, .int (-1), .null])), (q17, .inr (1, [.null, .null, .int (-1), .null])), (q19, .inr (1, [.null, .null, .int (-1), .null]))] := hD
  refine W.widen (k := 14) (n := 130) (Nat.le_of_ble_eq_true rfl) (Nat.le_of_ble_eq_true rfl) ?_
  refine va_astq hx hb hK hP hD hS 2 4 14 1 (r := ("ChannelMachine$Channel", F_Channel, 4)) rfl rfl rfl rfl (i := 4) (by unfold vp_in; decide) d_Machine_init_113 (fun H locs hP hD hS => ?_)
  have hP : va_P (dC, dI) x_cl [(h0, .inr (2, [.ref q1, .ref q2, .ref q3, .ref q5, .ref q7, .ref q8, .ref q9, .int 0, .int 0, .int 0, .long 0])), (q1, .inl (ar 0, 6, .inl (fun _ => 0))), (q2, .inl (ar 4, 6, .inr (.inr (.inr (.inr (va_up (va_up (va_up (va_up (va_up (fun _ => none) (Int32.toNatClampNeg 0) (some q11)) (Int32.toNatClampNeg 1) (some q13)) (Int32.toNatClampNeg 2) (some q15)) (Int32.toNatClampNeg 3) (some q17)) (Int32.toNatClampNeg 4) (some q19))))))), (q3, .inr (4, [.ref q4, .int 0])), (q4, .inl (ar 0, 8, .inl (fun _ => 0))), (q5, .inr (4, [.ref q6, .int 0])), (q6, .inl (ar 0, 8, .inl (fun _ => 0))), (q7, .inr (0, [.ref (z 0), .int 0, .int 0])), (q8, .inr (0, [.ref (z 0), .int 0, .int 0])), (q9, .inl (ar 0, 72, .inl (fun _ => 0))), (q11, .inr (1, [.null, .null, .int (-1), .null])), (q13, .inr (1, [.null, .null, .int (-1), .null])), (q15, .inr (1, [.null, .null, .int (-1), .null])), (q17, .inr (1, [.null, .null, .int (-1), .null])), (q19, .inr (1, [.null, .null, .int (-1), .null]))] H := hP
  have hD : va_D A [(h0, .inr (2, [.ref q1, .ref q2, .ref q3, .ref q5, .ref q7, .ref q8, .ref q9, .int 0, .int 0, .int 0, .long 0])), (q1, .inl (ar 0, 6, .inl (fun _ => 0))), (q2, .inl (ar 4, 6, .inr (.inr (.inr (.inr (va_up (va_up (va_up (va_up (va_up (fun _ => none) (Int32.toNatClampNeg 0) (some q11)) (Int32.toNatClampNeg 1) (some q13)) (Int32.toNatClampNeg 2) (some q15)) (Int32.toNatClampNeg 3) (some q17)) (Int32.toNatClampNeg 4) (some q19))))))), (q3, .inr (4, [.ref q4, .int 0])), (q4, .inl (ar 0, 8, .inl (fun _ => 0))), (q5, .inr (4, [.ref q6, .int 0])), (q6, .inl (ar 0, 8, .inl (fun _ => 0))), (q7, .inr (0, [.ref (z 0), .int 0, .int 0])), (q8, .inr (0, [.ref (z 0), .int 0, .int 0])), (q9, .inl (ar 0, 72, .inl (fun _ => 0))), (q11, .inr (1, [.null, .null, .int (-1), .null])), (q13, .inr (1, [.null, .null, .int (-1), .null])), (q15, .inr (1, [.null, .null, .int (-1), .null])), (q17, .inr (1, [.null, .null, .int (-1), .null])), (q19, .inr (1, [.null, .null, .int (-1), .null]))] := hD
  refine lv_iinc (v := 5) (lv' := [(1, .int 5), (0, .ref h0)]) hx hb d_Machine_init_114 hl (k := 0) rfl (by decide) (by decide) rfl (fun ls hl => ?_)
  refine lv_goto (tgt := 95) hx hb d_Machine_init_117 (by decide) ?_
  refine lv_iload_n hx hb d_Machine_init_95 rfl (lv_at hl 0 rfl) ?_
  refine lv_bipush (v := 6) hx hb d_Machine_init_96 (by decide) ?_
  refine lv_icmp_ge (tgt := 120) hx hb d_Machine_init_98 (by decide) (fun c20 => absurd c20 (by decide)) (fun _ => ?_)
  refine lv_aload_n hx hb d_Machine_init_101 rfl (lv_at hl 1 rfl) ?_
  refine va_get (D := (dC, dI)) (ci := 2) (v := .ref q2) (C := "ChannelMachine$Machine") (T := F_Machine) (N := 11) hx hb hts i_Machine hown hK hP 0 rfl rfl 1 (by decide) (hts _ k_152) (fun _ h9 => h9) rfl d_Machine_init_102 ?_
  refine lv_iload_n hx hb d_Machine_init_105 rfl (lv_at hl 0 rfl) ?_
  refine va_new (ci := 1) (fs := [.null, .null, .int 0, .null]) (C := "ChannelMachine$Channel") (T := F_Channel) (N := 4) hx hb hts i_Channel t_Channel t_Channel_ok hown (hts _ k_83) (hts _ k_126) (hts _ k_8) hK hP hD hS hA rfl (fun j hj => by rcases (show j = 0 ∨ j = 1 ∨ j = 2 ∨ j = 3 by omega) with rfl | rfl | rfl | rfl <;> rfl) (Nat.le_of_ble_eq_true rfl) (Nat.le_of_ble_eq_true rfl) d_Machine_init_106 (fun q21 H hP hD hS => ?_)
  have hP : va_P (dC, dI) x_cl [(h0, .inr (2, [.ref q1, .ref q2, .ref q3, .ref q5, .ref q7, .ref q8, .ref q9, .int 0, .int 0, .int 0, .long 0])), (q1, .inl (ar 0, 6, .inl (fun _ => 0))), (q2, .inl (ar 4, 6, .inr (.inr (.inr (.inr (va_up (va_up (va_up (va_up (va_up (fun _ => none) (Int32.toNatClampNeg 0) (some q11)) (Int32.toNatClampNeg 1) (some q13)) (Int32.toNatClampNeg 2) (some q15)) (Int32.toNatClampNeg 3) (some q17)) (Int32.toNatClampNeg 4) (some q19))))))), (q3, .inr (4, [.ref q4, .int 0])), (q4, .inl (ar 0, 8, .inl (fun _ => 0))), (q5, .inr (4, [.ref q6, .int 0])), (q6, .inl (ar 0, 8, .inl (fun _ => 0))), (q7, .inr (0, [.ref (z 0), .int 0, .int 0])), (q8, .inr (0, [.ref (z 0), .int 0, .int 0])), (q9, .inl (ar 0, 72, .inl (fun _ => 0))), (q11, .inr (1, [.null, .null, .int (-1), .null])), (q13, .inr (1, [.null, .null, .int (-1), .null])), (q15, .inr (1, [.null, .null, .int (-1), .null])), (q17, .inr (1, [.null, .null, .int (-1), .null])), (q19, .inr (1, [.null, .null, .int (-1), .null])), (q21, .inr (1, [.null, .null, .int 0, .null]))] H := hP
  have hD : va_D A [(h0, .inr (2, [.ref q1, .ref q2, .ref q3, .ref q5, .ref q7, .ref q8, .ref q9, .int 0, .int 0, .int 0, .long 0])), (q1, .inl (ar 0, 6, .inl (fun _ => 0))), (q2, .inl (ar 4, 6, .inr (.inr (.inr (.inr (va_up (va_up (va_up (va_up (va_up (fun _ => none) (Int32.toNatClampNeg 0) (some q11)) (Int32.toNatClampNeg 1) (some q13)) (Int32.toNatClampNeg 2) (some q15)) (Int32.toNatClampNeg 3) (some q17)) (Int32.toNatClampNeg 4) (some q19))))))), (q3, .inr (4, [.ref q4, .int 0])), (q4, .inl (ar 0, 8, .inl (fun _ => 0))), (q5, .inr (4, [.ref q6, .int 0])), (q6, .inl (ar 0, 8, .inl (fun _ => 0))), (q7, .inr (0, [.ref (z 0), .int 0, .int 0])), (q8, .inr (0, [.ref (z 0), .int 0, .int 0])), (q9, .inl (ar 0, 72, .inl (fun _ => 0))), (q11, .inr (1, [.null, .null, .int (-1), .null])), (q13, .inr (1, [.null, .null, .int (-1), .null])), (q15, .inr (1, [.null, .null, .int (-1), .null])), (q17, .inr (1, [.null, .null, .int (-1), .null])), (q19, .inr (1, [.null, .null, .int (-1), .null])), (q21, .inr (1, [.null, .null, .int 0, .null]))] := hD
  refine W.widen (k := 15) (n := 134) (Nat.le_of_ble_eq_true rfl) (Nat.le_of_ble_eq_true rfl) ?_
  refine lv_dup hx hb d_Machine_init_109 rfl ?_
  have hPc := hP.sub (ws' := [(q21, .inr (1, [.null, .null, .int 0, .null]))]) [15] rfl
  have hDc := hD.sub (ws' := [(q21, .inr (1, [.null, .null, .int 0, .null]))]) [15] (by decide) rfl
  have hFc := va_free (wc := [(q21, .inr (1, [.null, .null, .int 0, .null]))]) hD hS hA [15] rfl
  refine va_callv (va_runIN (As := []) (rest := [.ref q21, .int 5, .ref q2]) ⟨hx, hb, hml, hown, hts⟩ (c_Channel_init l dC dI ar N0 z q21 H.size) ⟨va_cnB 0 hts (x_good k_129) rfl rfl rfl (hU.2.1 _ kn_127) (hts _ k_8) (by decide +kernel) ⟨Nat.le_of_ble_eq_true rfl, Nat.le_of_ble_eq_true rfl⟩, rfl, hts _ k_128⟩ ⟨x_blind, fun U hU9 hW => x_pre hU9 hW hPc hDc hU hZ hS hAN hN0⟩ rfl rfl hl.1 rfl (lv_room (Nat.le_of_ble_eq_true rfl)) d_Machine_init_110 ⟨Nat.le_of_ble_eq_true rfl, Nat.le_of_ble_eq_true rfl⟩) hS (fun q _ h => hFc q h) hFc (fun u t H1 locs ht hvm hw hB hz1 hk1 hS => ?_)
  obtain ⟨hP1, hD1⟩ := hB
  rw [ht] at hP1
  obtain ⟨hP, hD⟩ := va_join (wr := [(h0, .inr (2, [.ref q1, .ref q2, .ref q3, .ref q5, .ref q7, .ref q8, .ref q9, .int 0, .int 0, .int 0, .long 0])), (q1, .inl (ar 0, 6, .inl (fun _ => 0))), (q2, .inl (ar 4, 6, .inr (.inr (.inr (.inr (va_up (va_up (va_up (va_up (va_up (fun _ => none) (Int32.toNatClampNeg 0) (some q11)) (Int32.toNatClampNeg 1) (some q13)) (Int32.toNatClampNeg 2) (some q15)) (Int32.toNatClampNeg 3) (some q17)) (Int32.toNatClampNeg 4) (some q19))))))), (q3, .inr (4, [.ref q4, .int 0])), (q4, .inl (ar 0, 8, .inl (fun _ => 0))), (q5, .inr (4, [.ref q6, .int 0])), (q6, .inl (ar 0, 8, .inl (fun _ => 0))), (q7, .inr (0, [.ref (z 0), .int 0, .int 0])), (q8, .inr (0, [.ref (z 0), .int 0, .int 0])), (q9, .inl (ar 0, 72, .inl (fun _ => 0))), (q11, .inr (1, [.null, .null, .int (-1), .null])), (q13, .inr (1, [.null, .null, .int (-1), .null])), (q15, .inr (1, [.null, .null, .int (-1), .null])), (q17, .inr (1, [.null, .null, .int (-1), .null])), (q19, .inr (1, [.null, .null, .int (-1), .null]))]) (w1 := [(q21, .inr (1, [.null, .null, .int (-1), .null]))]) hP hD [15] [0, 1, 2, 3, 4, 5, 6, 7, 8, 9, 10, 11, 12, 13, 14] rfl rfl (by decide) (by decide) hk1 hFc hP1 hD1
  generalize H1 = H at hP hS ⊢
  have hP : va_P (dC, dI) x_cl [(h0, .inr (2, [.ref q1, .ref q2, .ref q3, .ref q5, .ref q7, .ref q8, .ref q9, .int 0, .int 0, .int 0, .long 0])), (q1, .inl (ar 0, 6, .inl (fun _ => 0))), (q2, .inl (ar 4, 6, .inr (.inr (.inr (.inr (va_up (va_up (va_up (va_up (va_up (fun _ => none) (Int32.toNatClampNeg 0) (some q11)) (Int32.toNatClampNeg 1) (some q13)) (Int32.toNatClampNeg 2) (some q15)) (Int32.toNatClampNeg 3) (some q17)) (Int32.toNatClampNeg 4) (some q19))))))), (q3, .inr (4, [.ref q4, .int 0])), (q4, .inl (ar 0, 8, .inl (fun _ => 0))), (q5, .inr (4, [.ref q6, .int 0])), (q6, .inl (ar 0, 8, .inl (fun _ => 0))), (q7, .inr (0, [.ref (z 0), .int 0, .int 0])), (q8, .inr (0, [.ref (z 0), .int 0, .int 0])), (q9, .inl (ar 0, 72, .inl (fun _ => 0))), (q11, .inr (1, [.null, .null, .int (-1), .null])), (q13, .inr (1, [.null, .null, .int (-1), .null])), (q15, .inr (1, [.null, .null, .int (-1), .null])), (q17, .inr (1, [.null, .null, .int (-1), .null])), (q19, .inr (1, [.null, .null, .int (-1), .null])), (q21, .inr (1, [.null, .null, .int (-1), .null]))] H := hP
  have hD : va_D A [(h0, .inr (2, [.ref q1, .ref q2, .ref q3, .ref q5, .ref q7, .ref q8, .ref q9, .int 0, .int 0, .int 0, .long 0])), (q1, .inl (ar 0, 6, .inl (fun _ => 0))), (q2, .inl (ar 4, 6, .inr (.inr (.inr (.inr (va_up (va_up (va_up (va_up (va_up (fun _ => none) (Int32.toNatClampNeg 0) (some q11)) (Int32.toNatClampNeg 1) (some q13)) (Int32.toNatClampNeg 2) (some q15)) (Int32.toNatClampNeg 3) (some q17)) (Int32.toNatClampNeg 4) (some q19))))))), (q3, .inr (4, [.ref q4, .int 0])), (q4, .inl (ar 0, 8, .inl (fun _ => 0))), (q5, .inr (4, [.ref q6, .int 0])), (q6, .inl (ar 0, 8, .inl (fun _ => 0))), (q7, .inr (0, [.ref (z 0), .int 0, .int 0])), (q8, .inr (0, [.ref (z 0), .int 0, .int 0])), (q9, .inl (ar 0, 72, .inl (fun _ => 0))), (q11, .inr (1, [.null, .null, .int (-1), .null])), (q13, .inr (1, [.null, .null, .int (-1), .null])), (q15, .inr (1, [.null, .null, .int (-1), .null])), (q17, .inr (1, [.null, .null, .int (-1), .null])), (q19, .inr (1, [.null, .null, .int (-1), .null])), (q21, .inr (1, [.null, .null, .int (-1), .null]))] := hD
  refine W.widen (k := 15) (n := 134) (Nat.le_of_ble_eq_true rfl) (Nat.le_of_ble_eq_true rfl) ?_
  refine va_astq hx hb hK hP hD hS 2 4 15 1 (r := ("ChannelMachine$Channel", F_Channel, 4)) rfl rfl rfl rfl (i := 5) (by unfold vp_in; decide) d_Machine_init_113 (fun H locs hP hD hS => ?_)
  have hP : va_P (dC, dI) x_cl [(h0, .inr (2, [.ref q1, .ref q2, .ref q3, .ref q5, .ref q7, .ref q8, .ref q9, .int 0, .int 0, .int 0, .long 0])), (q1, .inl (ar 0, 6, .inl (fun _ => 0))), (q2, .inl (ar 4, 6, .inr (.inr (.inr (.inr (va_up (va_up (va_up (va_up (va_up (va_up (fun _ => none) (Int32.toNatClampNeg 0) (some q11)) (Int32.toNatClampNeg 1) (some q13)) (Int32.toNatClampNeg 2) (some q15)) (Int32.toNatClampNeg 3) (some q17)) (Int32.toNatClampNeg 4) (some q19)) (Int32.toNatClampNeg 5) (some q21))))))), (q3, .inr (4, [.ref q4, .int 0])), (q4, .inl (ar 0, 8, .inl (fun _ => 0))), (q5, .inr (4, [.ref q6, .int 0])), (q6, .inl (ar 0, 8, .inl (fun _ => 0))), (q7, .inr (0, [.ref (z 0), .int 0, .int 0])), (q8, .inr (0, [.ref (z 0), .int 0, .int 0])), (q9, .inl (ar 0, 72, .inl (fun _ => 0))), (q11, .inr (1, [.null, .null, .int (-1), .null])), (q13, .inr (1, [.null, .null, .int (-1), .null])), (q15, .inr (1, [.null, .null, .int (-1), .null])), (q17, .inr (1, [.null, .null, .int (-1), .null])), (q19, .inr (1, [.null, .null, .int (-1), .null])), (q21, .inr (1, [.null, .null, .int (-1), .null]))] H := hP
  have hD : va_D A [(h0, .inr (2, [.ref q1, .ref q2, .ref q3, .ref q5, .ref q7, .ref q8, .ref q9, .int 0, .int 0, .int 0, .long 0])), (q1, .inl (ar 0, 6, .inl (fun _ => 0))), (q2, .inl (ar 4, 6, .inr (.inr (.inr (.inr (va_up (va_up (va_up (va_up (va_up (va_up (fun _ => none) (Int32.toNatClampNeg 0) (some q11)) (Int32.toNatClampNeg 1) (some q13)) (Int32.toNatClampNeg 2) (some q15)) (Int32.toNatClampNeg 3) (some q17)) (Int32.toNatClampNeg 4) (some q19)) (Int32.toNatClampNeg 5) (some q21))))))), (q3, .inr (4, [.ref q4, .int 0])), (q4, .inl (ar 0, 8, .inl (fun _ => 0))), (q5, .inr (4, [.ref q6, .int 0])), (q6, .inl (ar 0, 8, .inl (fun _ => 0))), (q7, .inr (0, [.ref (z 0), .int 0, .int 0])), (q8, .inr (0, [.ref (z 0), .int 0, .int 0])), (q9, .inl (ar 0, 72, .inl (fun _ => 0))), (q11, .inr (1, [.null, .null, .int (-1), .null])), (q13, .inr (1, [.null, .null, .int (-1), .null])), (q15, .inr (1, [.null, .null, .int (-1), .null])), (q17, .inr (1, [.null, .null, .int (-1), .null])), (q19, .inr (1, [.null, .null, .int (-1), .null])), (q21, .inr (1, [.null, .null, .int (-1), .null]))] := hD
  refine lv_iinc (v := 6) (lv' := [(1, .int 6), (0, .ref h0)]) hx hb d_Machine_init_114 hl (k := 0) rfl (by decide) (by decide) rfl (fun ls hl => ?_)
  refine lv_goto (tgt := 95) hx hb d_Machine_init_117 (by decide) ?_
  refine lv_iload_n hx hb d_Machine_init_95 rfl (lv_at hl 0 rfl) ?_
  refine lv_bipush (v := 6) hx hb d_Machine_init_96 (by decide) ?_
  refine lv_icmp_ge (tgt := 120) hx hb d_Machine_init_98 (by decide) (fun _ => ?_) (fun c22 => absurd (by decide) c22)
  exact W.vret hx hb hr (fun t ht hW => ⟨⟨(), rfl, trivial, q1, q2, q3, q4, q5, q6, q7, q8, q9, q11, q13, q15, q17, q19, q21, by rw [ht]; exact hP, hD⟩, hS.F ht⟩) hS.2.2 d_Machine_init_120
set_option maxHeartbeats 4000000 in
set_option maxRecDepth 100000 in
theorem c_CM_init (l : Launch) (dC : Nat → ClassId) (dI : Nat → Nat → Nat) (ar : Nat → ClassId) (N0 : Nat) (z : Nat → Nat) (h0 : Nat) (sz : Nat) : Met l ({ cls := "ChannelMachine", name := "<init>", desc := "()V" } : Jvm.MethodName) ((Jvm.Cond.code ({ cls := "ChannelMachine", name := "<init>", desc := "()V" } : Jvm.MethodName) prog_1_method_1_code (1 : Nat) (Option.none : Option Jvm.ClassFile.FieldType)) :: x_T) ({ frames := 5, cells := 19, slots := 298, locals := 95 }) (x_Pc (dC, dI) ar N0 z [(h0, .inr (5, [.null, .null, .int 0]))] sz [.ref h0]) (va_Qv (fun _ : Unit => True) (fun _ t => ∃ (q1 : Nat) (q2 : Nat) (q3 : Nat) (q4 : Nat) (q5 : Nat) (q6 : Nat) (q7 : Nat) (q8 : Nat) (q9 : Nat) (q10 : Nat) (q11 : Nat) (q12 : Nat) (q13 : Nat) (q14 : Nat) (q15 : Nat) (q16 : Nat) (q17 : Nat) (q18 : Nat) (q19 : Nat), va_P (dC, dI) x_cl [(h0, .inr (5, [.ref q1, .ref q4, .int (-1)])), (q1, .inr (3, [.ref q2, .ref q3, .int 0, .int 0, .int 0, .int 0, .int 0, .int 0, .null])), (q2, .inl (ar 1, 72, .inl (fun _ => 0))), (q3, .inl (ar 0, 72, .inl (fun _ => 0))), (q4, .inr (2, [.ref q5, .ref q6, .ref q7, .ref q9, .ref q11, .ref q12, .ref q13, .int 0, .int 0, .int 0, .long 0])), (q5, .inl (ar 0, 6, .inl (fun _ => 0))), (q6, .inl (ar 4, 6, .inr (.inr (.inr (.inr (va_up (va_up (va_up (va_up (va_up (va_up (fun _ => none) (Int32.toNatClampNeg 0) (some q14)) (Int32.toNatClampNeg 1) (some q15)) (Int32.toNatClampNeg 2) (some q16)) (Int32.toNatClampNeg 3) (some q17)) (Int32.toNatClampNeg 4) (some q18)) (Int32.toNatClampNeg 5) (some q19))))))), (q7, .inr (4, [.ref q8, .int 0])), (q8, .inl (ar 0, 8, .inl (fun _ => 0))), (q9, .inr (4, [.ref q10, .int 0])), (q10, .inl (ar 0, 8, .inl (fun _ => 0))), (q11, .inr (0, [.ref (z 0), .int 0, .int 0])), (q12, .inr (0, [.ref (z 0), .int 0, .int 0])), (q13, .inl (ar 0, 72, .inl (fun _ => 0))), (q14, .inr (1, [.null, .null, .int (-1), .null])), (q15, .inr (1, [.null, .null, .int (-1), .null])), (q16, .inr (1, [.null, .null, .int (-1), .null])), (q17, .inr (1, [.null, .null, .int (-1), .null])), (q18, .inr (1, [.null, .null, .int (-1), .null])), (q19, .inr (1, [.null, .null, .int (-1), .null]))] t.heap ∧ va_D (va_A [(h0, .inr (5, [.null, .null, .int 0]))] sz) [(h0, .inr (5, [.ref q1, .ref q4, .int (-1)])), (q1, .inr (3, [.ref q2, .ref q3, .int 0, .int 0, .int 0, .int 0, .int 0, .int 0, .null])), (q2, .inl (ar 1, 72, .inl (fun _ => 0))), (q3, .inl (ar 0, 72, .inl (fun _ => 0))), (q4, .inr (2, [.ref q5, .ref q6, .ref q7, .ref q9, .ref q11, .ref q12, .ref q13, .int 0, .int 0, .int 0, .long 0])), (q5, .inl (ar 0, 6, .inl (fun _ => 0))), (q6, .inl (ar 4, 6, .inr (.inr (.inr (.inr (va_up (va_up (va_up (va_up (va_up (va_up (fun _ => none) (Int32.toNatClampNeg 0) (some q14)) (Int32.toNatClampNeg 1) (some q15)) (Int32.toNatClampNeg 2) (some q16)) (Int32.toNatClampNeg 3) (some q17)) (Int32.toNatClampNeg 4) (some q18)) (Int32.toNatClampNeg 5) (some q19))))))), (q7, .inr (4, [.ref q8, .int 0])), (q8, .inl (ar 0, 8, .inl (fun _ => 0))), (q9, .inr (4, [.ref q10, .int 0])), (q10, .inl (ar 0, 8, .inl (fun _ => 0))), (q11, .inr (0, [.ref (z 0), .int 0, .int 0])), (q12, .inr (0, [.ref (z 0), .int 0, .int 0])), (q13, .inl (ar 0, 72, .inl (fun _ => 0))), (q14, .inr (1, [.null, .null, .int (-1), .null])), (q15, .inr (1, [.null, .null, .int (-1), .null])), (q16, .inr (1, [.null, .null, .int (-1), .null])), (q17, .inr (1, [.null, .null, .int (-1), .null])), (q18, .inr (1, [.null, .null, .int (-1), .null])), (q19, .inr (1, [.null, .null, .int (-1), .null]))]) (va_A [(h0, .inr (5, [.null, .null, .int 0]))] sz)) 19 298 (va_A [(h0, .inr (5, [.null, .null, .int 0]))] sz) := by
  refine Met.ofW (cc := prog_1_method_1_code) (maxL := 1) (ret := none) (by decide) rfl ?_
  intro p e s m args below meth c s₁ B hml hv
  obtain ⟨rfl, hsz, hN0, hP, hU, hZ, hD0⟩ := hv
  have hK := hU.1
  have hx := B.exec
  have hb := B.bytes
  have hr := B.returns
  have hts : ∀ w ∈ x_T, w.before ([.ref h0] : List Value).toArray s = true := fun w h => atoms_spec (ws := (Jvm.Cond.code ({ cls := "ChannelMachine", name := "<init>", desc := "()V" } : Jvm.MethodName) prog_1_method_1_code (1 : Nat) (Option.none : Option Jvm.ClassFile.FieldType)) :: x_T) B.pre w (List.mem_cons_of_mem _ h)
  have hown : s.vm.findClass "ChannelMachine" = some m.cls := findClass_of_methodNamed B.named
  have hlocks := B.notSynchronized
  have hin : meth.name = "<init>" := (name_of_methodNamed B.named B.method).1
  subst hsz
  have hD := hD0.self (sz := s.heap.size)
  have hAN := x_AN hD0 hN0
  generalize hAe : va_A [(h0, .inr (5, [.null, .null, .int 0]))] s.heap.size = A at hD hAN ⊢
  have hA : ∀ q : Nat, s.heap.size ≤ q → A q := fun q h => by rw [← hAe]; exact Or.inr h
  have hS : va_S A s.heap s.heap [] := va_S.rf
  have hP : va_P (dC, dI) x_cl [(h0, .inr (5, [.null, .null, .int 0]))] s.heap := hP
  have hl := lv_entry ([.ref h0]) (n := 1) (Nat.le_of_ble_eq_true rfl)
  rw [lg_entry_eq]
  generalize (lg_sl ([.ref h0]) ++ List.replicate (1 - (lg_sl ([.ref h0])).length) Slot.unset).toArray = ls at hl ⊢
  have hl : lv_has ls 1 [(0, .ref h0)] := hl
  have hH0 : s.heap.size ≤ s.heap.size := Nat.le_refl _
  refine lv_aload_n hx hb d_CM_init_0 rfl (lv_at hl 0 rfl) ?_
  refine W.objInit hx hb hown (hts _ k_34) (hts _ k_35) (hts _ k_36) rfl (by rw [hml]; exact hl.1) rfl d_CM_init_1 (Nat.le_of_ble_eq_true rfl) (Nat.le_of_ble_eq_true rfl) ?_
  refine W.eq (g2 := F0 m 4 ls []) rfl ?_
  refine lv_aload_n hx hb d_CM_init_4 rfl (lv_at hl 0 rfl) ?_
  refine va_new (ci := 3) (fs := [.null, .null, .int 0, .int 0, .int 0, .int 0, .int 0, .int 0, .null]) (C := "ChannelMachine$Reader") (T := F_Reader) (N := 9) hx hb hts i_Reader t_Reader t_Reader_ok hown (hts _ k_37) (hts _ k_38) (hts _ k_2) hK hP hD hS hA rfl (fun j hj => by rcases (show j = 0 ∨ j = 1 ∨ j = 2 ∨ j = 3 ∨ j = 4 ∨ j = 5 ∨ j = 6 ∨ j = 7 ∨ j = 8 by omega) with rfl | rfl | rfl | rfl | rfl | rfl | rfl | rfl | rfl <;> rfl) (Nat.le_of_ble_eq_true rfl) (Nat.le_of_ble_eq_true rfl) d_CM_init_5 (fun q1 H hP hD hS => ?_)
  have hP : va_P (dC, dI) x_cl [(h0, .inr (5, [.null, .null, .int 0])), (q1, .inr (3, [.null, .null, .int 0, .int 0, .int 0, .int 0, .int 0, .int 0, .null]))] H := hP
  have hD : va_D A [(h0, .inr (5, [.null, .null, .int 0])), (q1, .inr (3, [.null, .null, .int 0, .int 0, .int 0, .int 0, .int 0, .int 0, .null]))] := hD
  refine W.widen (k := 1) (n := 9) (Nat.le_of_ble_eq_true rfl) (Nat.le_of_ble_eq_true rfl) ?_
  refine lv_dup hx hb d_CM_init_8 rfl ?_
  have hPc := hP.sub (ws' := [(q1, .inr (3, [.null, .null, .int 0, .int 0, .int 0, .int 0, .int 0, .int 0, .null]))]) [1] rfl
  have hDc := hD.sub (ws' := [(q1, .inr (3, [.null, .null, .int 0, .int 0, .int 0, .int 0, .int 0, .int 0, .null]))]) [1] (by decide) rfl
  have hFc := va_free (wc := [(q1, .inr (3, [.null, .null, .int 0, .int 0, .int 0, .int 0, .int 0, .int 0, .null]))]) hD hS hA [1] rfl
  refine va_callv (va_runIN (As := []) (rest := [.ref q1, .ref h0]) ⟨hx, hb, hml, hown, hts⟩ (c_Reader_init l dC dI ar N0 z q1 H.size) ⟨va_cnB 0 hts (x_good k_41) rfl rfl rfl (hU.2.1 _ kn_39) (hts _ k_2) (by decide +kernel) ⟨Nat.le_of_ble_eq_true rfl, Nat.le_of_ble_eq_true rfl⟩, rfl, hts _ k_40⟩ ⟨x_blind, fun U hU9 hW => x_pre hU9 hW hPc hDc hU hZ hS hAN hN0⟩ rfl rfl hl.1 rfl (lv_room (Nat.le_of_ble_eq_true rfl)) d_CM_init_9 ⟨Nat.le_of_ble_eq_true rfl, Nat.le_of_ble_eq_true rfl⟩) hS (fun q _ h => hFc q h) hFc (fun u t H1 locs ht hvm hw hB hz1 hk1 hS => ?_)
  obtain ⟨q2, q3, hP1, hD1⟩ := hB
  rw [ht] at hP1
  obtain ⟨hP, hD⟩ := va_join (wr := [(h0, .inr (5, [.null, .null, .int 0]))]) (w1 := [(q1, .inr (3, [.ref q2, .ref q3, .int 0, .int 0, .int 0, .int 0, .int 0, .int 0, .null])), (q2, .inl (ar 1, 72, .inl (fun _ => 0))), (q3, .inl (ar 0, 72, .inl (fun _ => 0)))]) hP hD [1] [0] rfl rfl (by decide) (by decide) hk1 hFc hP1 hD1
  generalize H1 = H at hP hS ⊢
  have hP : va_P (dC, dI) x_cl [(h0, .inr (5, [.null, .null, .int 0])), (q1, .inr (3, [.ref q2, .ref q3, .int 0, .int 0, .int 0, .int 0, .int 0, .int 0, .null])), (q2, .inl (ar 1, 72, .inl (fun _ => 0))), (q3, .inl (ar 0, 72, .inl (fun _ => 0)))] H := hP
  have hD : va_D A [(h0, .inr (5, [.null, .null, .int 0])), (q1, .inr (3, [.ref q2, .ref q3, .int 0, .int 0, .int 0, .int 0, .int 0, .int 0, .null])), (q2, .inl (ar 1, 72, .inl (fun _ => 0))), (q3, .inl (ar 0, 72, .inl (fun _ => 0)))] := hD
  refine W.widen (k := 3) (n := 153) (Nat.le_of_ble_eq_true rfl) (Nat.le_of_ble_eq_true rfl) ?_
  refine va_putF (D := (dC, dI)) (ci := 5) (v := .ref q1) (ty := (.object "ChannelMachine$Reader")) (C := "ChannelMachine") (T := F_CM) (N := 3) hx hb hts i_CM t_CM t_CM_ok n_CM hown hK hP hD hS 0 rfl rfl 0 (by decide) (hts _ k_194) (fun _ h9 => h9) rfl hin rfl (by decide +kernel) rfl rfl (Nat.le_of_ble_eq_true rfl) d_CM_init_12 (fun H locs hP hD hS => ?_)
  have hP : va_P (dC, dI) x_cl [(h0, .inr (5, [.ref q1, .null, .int 0])), (q1, .inr (3, [.ref q2, .ref q3, .int 0, .int 0, .int 0, .int 0, .int 0, .int 0, .null])), (q2, .inl (ar 1, 72, .inl (fun _ => 0))), (q3, .inl (ar 0, 72, .inl (fun _ => 0)))] H := hP
  have hD : va_D A [(h0, .inr (5, [.ref q1, .null, .int 0])), (q1, .inr (3, [.ref q2, .ref q3, .int 0, .int 0, .int 0, .int 0, .int 0, .int 0, .null])), (q2, .inl (ar 1, 72, .inl (fun _ => 0))), (q3, .inl (ar 0, 72, .inl (fun _ => 0)))] := hD
  refine lv_aload_n hx hb d_CM_init_15 rfl (lv_at hl 0 rfl) ?_
  refine va_new (ci := 2) (fs := [.null, .null, .null, .null, .null, .null, .null, .int 0, .int 0, .int 0, .long 0]) (C := "ChannelMachine$Machine") (T := F_Machine) (N := 11) hx hb hts i_Machine t_Machine t_Machine_ok hown (hts _ k_77) (hts _ k_78) (hts _ k_3) hK hP hD hS hA rfl (fun j hj => by rcases (show j = 0 ∨ j = 1 ∨ j = 2 ∨ j = 3 ∨ j = 4 ∨ j = 5 ∨ j = 6 ∨ j = 7 ∨ j = 8 ∨ j = 9 ∨ j = 10 by omega) with rfl | rfl | rfl | rfl | rfl | rfl | rfl | rfl | rfl | rfl | rfl <;> rfl) (Nat.le_of_ble_eq_true rfl) (Nat.le_of_ble_eq_true rfl) d_CM_init_16 (fun q4 H hP hD hS => ?_)
  have hP : va_P (dC, dI) x_cl [(h0, .inr (5, [.ref q1, .null, .int 0])), (q1, .inr (3, [.ref q2, .ref q3, .int 0, .int 0, .int 0, .int 0, .int 0, .int 0, .null])), (q2, .inl (ar 1, 72, .inl (fun _ => 0))), (q3, .inl (ar 0, 72, .inl (fun _ => 0))), (q4, .inr (2, [.null, .null, .null, .null, .null, .null, .null, .int 0, .int 0, .int 0, .long 0]))] H := hP
  have hD : va_D A [(h0, .inr (5, [.ref q1, .null, .int 0])), (q1, .inr (3, [.ref q2, .ref q3, .int 0, .int 0, .int 0, .int 0, .int 0, .int 0, .null])), (q2, .inl (ar 1, 72, .inl (fun _ => 0))), (q3, .inl (ar 0, 72, .inl (fun _ => 0))), (q4, .inr (2, [.null, .null, .null, .null, .null, .null, .null, .int 0, .int 0, .int 0, .long 0]))] := hD
  refine W.widen (k := 4) (n := 164) (Nat.le_of_ble_eq_true rfl) (Nat.le_of_ble_eq_true rfl) ?_
  refine lv_dup hx hb d_CM_init_19 rfl ?_
  have hPc := hP.sub (ws' := [(q4, .inr (2, [.null, .null, .null, .null, .null, .null, .null, .int 0, .int 0, .int 0, .long 0]))]) [4] rfl
  have hDc := hD.sub (ws' := [(q4, .inr (2, [.null, .null, .null, .null, .null, .null, .null, .int 0, .int 0, .int 0, .long 0]))]) [4] (by decide) rfl
  have hFc := va_free (wc := [(q4, .inr (2, [.null, .null, .null, .null, .null, .null, .null, .int 0, .int 0, .int 0, .long 0]))]) hD hS hA [4] rfl
  refine va_callv (va_runI (As := []) (rest := [.ref q4, .ref h0]) ⟨hx, hb, hml, hown, hts⟩ (c_Machine_init l dC dI ar N0 z q4 H.size) (cwI 0 hts (x_good k_81) rfl rfl rfl (hts _ k_3) (hts _ k_79) (hts _ k_80) rfl (by decide +kernel) ⟨Nat.le_of_ble_eq_true rfl, Nat.le_of_ble_eq_true rfl⟩) ⟨x_blind, fun U hU9 hW => x_pre hU9 hW hPc hDc hU hZ hS hAN hN0⟩ rfl rfl hl.1 rfl (lv_room (Nat.le_of_ble_eq_true rfl)) d_CM_init_20 ⟨Nat.le_of_ble_eq_true rfl, Nat.le_of_ble_eq_true rfl⟩) hS (fun q _ h => hFc q h) hFc (fun u t H1 locs ht hvm hw hB hz1 hk1 hS => ?_)
  obtain ⟨q5, q6, q7, q8, q9, q10, q11, q12, q13, q14, q15, q16, q17, q18, q19, hP1, hD1⟩ := hB
  rw [ht] at hP1
  obtain ⟨hP, hD⟩ := va_join (wr := [(h0, .inr (5, [.ref q1, .null, .int 0])), (q1, .inr (3, [.ref q2, .ref q3, .int 0, .int 0, .int 0, .int 0, .int 0, .int 0, .null])), (q2, .inl (ar 1, 72, .inl (fun _ => 0))), (q3, .inl (ar 0, 72, .inl (fun _ => 0)))]) (w1 := [(q4, .inr (2, [.ref q5, .ref q6, .ref q7, .ref q9, .ref q11, .ref q12, .ref q13, .int 0, .int 0, .int 0, .long 0])), (q5, .inl (ar 0, 6, .inl (fun _ => 0))), (q6, .inl (ar 4, 6, .inr (.inr (.inr (.inr (va_up (va_up (va_up (va_up (va_up (va_up (fun _ => none) (Int32.toNatClampNeg 0) (some q14)) (Int32.toNatClampNeg 1) (some q15)) (Int32.toNatClampNeg 2) (some q16)) (Int32.toNatClampNeg 3) (some q17)) (Int32.toNatClampNeg 4) (some q18)) (Int32.toNatClampNeg 5) (some q19))))))), (q7, .inr (4, [.ref q8, .int 0])), (q8, .inl (ar 0, 8, .inl (fun _ => 0))), (q9, .inr (4, [.ref q10, .int 0])), (q10, .inl (ar 0, 8, .inl (fun _ => 0))), (q11, .inr (0, [.ref (z 0), .int 0, .int 0])), (q12, .inr (0, [.ref (z 0), .int 0, .int 0])), (q13, .inl (ar 0, 72, .inl (fun _ => 0))), (q14, .inr (1, [.null, .null, .int (-1), .null])), (q15, .inr (1, [.null, .null, .int (-1), .null])), (q16, .inr (1, [.null, .null, .int (-1), .null])), (q17, .inr (1, [.null, .null, .int (-1), .null])), (q18, .inr (1, [.null, .null, .int (-1), .null])), (q19, .inr (1, [.null, .null, .int (-1), .null]))]) hP hD [4] [0, 1, 2, 3] rfl rfl (by decide) (by decide) hk1 hFc hP1 hD1
  generalize H1 = H at hP hS ⊢
  have hP : va_P (dC, dI) x_cl [(h0, .inr (5, [.ref q1, .null, .int 0])), (q1, .inr (3, [.ref q2, .ref q3, .int 0, .int 0, .int 0, .int 0, .int 0, .int 0, .null])), (q2, .inl (ar 1, 72, .inl (fun _ => 0))), (q3, .inl (ar 0, 72, .inl (fun _ => 0))), (q4, .inr (2, [.ref q5, .ref q6, .ref q7, .ref q9, .ref q11, .ref q12, .ref q13, .int 0, .int 0, .int 0, .long 0])), (q5, .inl (ar 0, 6, .inl (fun _ => 0))), (q6, .inl (ar 4, 6, .inr (.inr (.inr (.inr (va_up (va_up (va_up (va_up (va_up (va_up (fun _ => none) (Int32.toNatClampNeg 0) (some q14)) (Int32.toNatClampNeg 1) (some q15)) (Int32.toNatClampNeg 2) (some q16)) (Int32.toNatClampNeg 3) (some q17)) (Int32.toNatClampNeg 4) (some q18)) (Int32.toNatClampNeg 5) (some q19))))))), (q7, .inr (4, [.ref q8, .int 0])), (q8, .inl (ar 0, 8, .inl (fun _ => 0))), (q9, .inr (4, [.ref q10, .int 0])), (q10, .inl (ar 0, 8, .inl (fun _ => 0))), (q11, .inr (0, [.ref (z 0), .int 0, .int 0])), (q12, .inr (0, [.ref (z 0), .int 0, .int 0])), (q13, .inl (ar 0, 72, .inl (fun _ => 0))), (q14, .inr (1, [.null, .null, .int (-1), .null])), (q15, .inr (1, [.null, .null, .int (-1), .null])), (q16, .inr (1, [.null, .null, .int (-1), .null])), (q17, .inr (1, [.null, .null, .int (-1), .null])), (q18, .inr (1, [.null, .null, .int (-1), .null])), (q19, .inr (1, [.null, .null, .int (-1), .null]))] H := hP
  have hD : va_D A [(h0, .inr (5, [.ref q1, .null, .int 0])), (q1, .inr (3, [.ref q2, .ref q3, .int 0, .int 0, .int 0, .int 0, .int 0, .int 0, .null])), (q2, .inl (ar 1, 72, .inl (fun _ => 0))), (q3, .inl (ar 0, 72, .inl (fun _ => 0))), (q4, .inr (2, [.ref q5, .ref q6, .ref q7, .ref q9, .ref q11, .ref q12, .ref q13, .int 0, .int 0, .int 0, .long 0])), (q5, .inl (ar 0, 6, .inl (fun _ => 0))), (q6, .inl (ar 4, 6, .inr (.inr (.inr (.inr (va_up (va_up (va_up (va_up (va_up (va_up (fun _ => none) (Int32.toNatClampNeg 0) (some q14)) (Int32.toNatClampNeg 1) (some q15)) (Int32.toNatClampNeg 2) (some q16)) (Int32.toNatClampNeg 3) (some q17)) (Int32.toNatClampNeg 4) (some q18)) (Int32.toNatClampNeg 5) (some q19))))))), (q7, .inr (4, [.ref q8, .int 0])), (q8, .inl (ar 0, 8, .inl (fun _ => 0))), (q9, .inr (4, [.ref q10, .int 0])), (q10, .inl (ar 0, 8, .inl (fun _ => 0))), (q11, .inr (0, [.ref (z 0), .int 0, .int 0])), (q12, .inr (0, [.ref (z 0), .int 0, .int 0])), (q13, .inl (ar 0, 72, .inl (fun _ => 0))), (q14, .inr (1, [.null, .null, .int (-1), .null])), (q15, .inr (1, [.null, .null, .int (-1), .null])), (q16, .inr (1, [.null, .null, .int (-1), .null])), (q17, .inr (1, [.null, .null, .int (-1), .null])), (q18, .inr (1, [.null, .null, .int (-1), .null])), (q19, .inr (1, [.null, .null, .int (-1), .null]))] := hD
  refine W.widen (k := 19) (n := 298) (Nat.le_of_ble_eq_true rfl) (Nat.le_of_ble_eq_true rfl) ?_
  refine va_putF (D := (dC, dI)) (ci := 5) (v := .ref q4) (ty := (.object "ChannelMachine$Machine")) (C := "ChannelMachine") (T := F_CM) (N := 3) hx hb hts i_CM t_CM t_CM_ok n_CM hown hK hP hD hS 0 rfl rfl 1 (by decide) (hts _ k_195) (fun _ h9 => h9) rfl hin rfl (by decide +kernel) rfl rfl (Nat.le_of_ble_eq_true rfl) d_CM_init_23 (fun H locs hP hD hS => ?_)
  have hP : va_P (dC, dI) x_cl [(h0, .inr (5, [.ref q1, .ref q4, .int 0])), (q1, .inr (3, [.ref q2, .ref q3, .int 0, .int 0, .int 0, .int 0, .int 0, .int 0, .null])), (q2, .inl (ar 1, 72, .inl (fun _ => 0))), (q3, .inl (ar 0, 72, .inl (fun _ => 0))), (q4, .inr (2, [.ref q5, .ref q6, .ref q7, .ref q9, .ref q11, .ref q12, .ref q13, .int 0, .int 0, .int 0, .long 0])), (q5, .inl (ar 0, 6, .inl (fun _ => 0))), (q6, .inl (ar 4, 6, .inr (.inr (.inr (.inr (va_up (va_up (va_up (va_up (va_up (va_up (fun _ => none) (Int32.toNatClampNeg 0) (some q14)) (Int32.toNatClampNeg 1) (some q15)) (Int32.toNatClampNeg 2) (some q16)) (Int32.toNatClampNeg 3) (some q17)) (Int32.toNatClampNeg 4) (some q18)) (Int32.toNatClampNeg 5) (some q19))))))), (q7, .inr (4, [.ref q8, .int 0])), (q8, .inl (ar 0, 8, .inl (fun _ => 0))), (q9, .inr (4, [.ref q10, .int 0])), (q10, .inl (ar 0, 8, .inl (fun _ => 0))), (q11, .inr (0, [.ref (z 0), .int 0, .int 0])), (q12, .inr (0, [.ref (z 0), .int 0, .int 0])), (q13, .inl (ar 0, 72, .inl (fun _ => 0))), (q14, .inr (1, [.null, .null, .int (-1), .null])), (q15, .inr (1, [.null, .null, .int (-1), .null])), (q16, .inr (1, [.null, .null, .int (-1), .null])), (q17, .inr (1, [.null, .null, .int (-1), .null])), (q18, .inr (1, [.null, .null, .int (-1), .null])), (q19, .inr (1, [.null, .null, .int (-1), .null]))] H := hP
  have hD : va_D A [(h0, .inr (5, [.ref q1, .ref q4, .int 0])), (q1, .inr (3, [.ref q2, .ref q3, .int 0, .int 0, .int 0, .int 0, .int 0, .int 0, .null])), (q2, .inl (ar 1, 72, .inl (fun _ => 0))), (q3, .inl (ar 0, 72, .inl (fun _ => 0))), (q4, .inr (2, [.ref q5, .ref q6, .ref q7, .ref q9, .ref q11, .ref q12, .ref q13, .int 0, .int 0, .int 0, .long 0])), (q5, .inl (ar 0, 6, .inl (fun _ => 0))), (q6, .inl (ar 4, 6, .inr (.inr (.inr (.inr (va_up (va_up (va_up (va_up (va_up (va_up (fun _ => none) (Int32.toNatClampNeg 0) (some q14)) (Int32.toNatClampNeg 1) (some q15)) (Int32.toNatClampNeg 2) (some q16)) (Int32.toNatClampNeg 3) (some q17)) (Int32.toNatClampNeg 4) (some q18)) (Int32.toNatClampNeg 5) (some q19))))))), (q7, .inr (4, [.ref q8, .int 0])), (q8, .inl (ar 0, 8, .inl (fun _ => 0))), (q9, .inr (4, [.ref q10, .int 0])), (q10, .inl (ar 0, 8, .inl (fun _ => 0))), (q11, .inr (0, [.ref (z 0), .int 0, .int 0])), (q12, .inr (0, [.ref (z 0), .int 0, .int 0])), (q13, .inl (ar 0, 72, .inl (fun _ => 0))), (q14, .inr (1, [.null, .null, .int (-1), .null])), (q15, .inr (1, [.null, .null, .int (-1), .null])), (q16, .inr (1, [.null, .null, .int (-1), .null])), (q17, .inr (1, [.null, .null, .int (-1), .null])), (q18, .inr (1, [.null, .null, .int (-1), .null])), (q19, .inr (1, [.null, .null, .int (-1), .null]))] := hD
  refine lv_aload_n hx hb d_CM_init_26 rfl (lv_at hl 0 rfl) ?_
  refine lv_iconst (v := (-1)) hx hb d_CM_init_27 (by decide) ?_
  refine va_put (D := (dC, dI)) (ci := 5) (v := .int (-1)) (ty := .int) (C := "ChannelMachine") (T := F_CM) (N := 3) hx hb hts i_CM t_CM t_CM_ok n_CM hown hK hP hD hS 0 rfl rfl 2 (by decide) (hts _ k_196) (fun _ h9 => h9) rfl (by decide +kernel) rfl rfl (Nat.le_of_ble_eq_true rfl) d_CM_init_28 (fun H locs hP hD hS => ?_)
  have hP : va_P (dC, dI) x_cl [(h0, .inr (5, [.ref q1, .ref q4, .int (-1)])), (q1, .inr (3, [.ref q2, .ref q3, .int 0, .int 0, .int 0, .int 0, .int 0, .int 0, .null])), (q2, .inl (ar 1, 72, .inl (fun _ => 0))), (q3, .inl (ar 0, 72, .inl (fun _ => 0))), (q4, .inr (2, [.ref q5, .ref q6, .ref q7, .ref q9, .ref q11, .ref q12, .ref q13, .int 0, .int 0, .int 0, .long 0])), (q5, .inl (ar 0, 6, .inl (fun _ => 0))), (q6, .inl (ar 4, 6, .inr (.inr (.inr (.inr (va_up (va_up (va_up (va_up (va_up (va_up (fun _ => none) (Int32.toNatClampNeg 0) (some q14)) (Int32.toNatClampNeg 1) (some q15)) (Int32.toNatClampNeg 2) (some q16)) (Int32.toNatClampNeg 3) (some q17)) (Int32.toNatClampNeg 4) (some q18)) (Int32.toNatClampNeg 5) (some q19))))))), (q7, .inr (4, [.ref q8, .int 0])), (q8, .inl (ar 0, 8, .inl (fun _ => 0))), (q9, .inr (4, [.ref q10, .int 0])), (q10, .inl (ar 0, 8, .inl (fun _ => 0))), (q11, .inr (0, [.ref (z 0), .int 0, .int 0])), (q12, .inr (0, [.ref (z 0), .int 0, .int 0])), (q13, .inl (ar 0, 72, .inl (fun _ => 0))), (q14, .inr (1, [.null, .null, .int (-1), .null])), (q15, .inr (1, [.null, .null, .int (-1), .null])), (q16, .inr (1, [.null, .null, .int (-1), .null])), (q17, .inr (1, [.null, .null, .int (-1), .null])), (q18, .inr (1, [.null, .null, .int (-1), .null])), (q19, .inr (1, [.null, .null, .int (-1), .null]))] H := hP
  have hD : va_D A [(h0, .inr (5, [.ref q1, .ref q4, .int (-1)])), (q1, .inr (3, [.ref q2, .ref q3, .int 0, .int 0, .int 0, .int 0, .int 0, .int 0, .null])), (q2, .inl (ar 1, 72, .inl (fun _ => 0))), (q3, .inl (ar 0, 72, .inl (fun _ => 0))), (q4, .inr (2, [.ref q5, .ref q6, .ref q7, .ref q9, .ref q11, .ref q12, .ref q13, .int 0, .int 0, .int 0, .long 0])), (q5, .inl (ar 0, 6, .inl (fun _ => 0))), (q6, .inl (ar 4, 6, .inr (.inr (.inr (.inr (va_up (va_up (va_up (va_up (va_up (va_up (fun _ => none) (Int32.toNatClampNeg 0) (some q14)) (Int32.toNatClampNeg 1) (some q15)) (Int32.toNatClampNeg 2) (some q16)) (Int32.toNatClampNeg 3) (some q17)) (Int32.toNatClampNeg 4) (some q18)) (Int32.toNatClampNeg 5) (some q19))))))), (q7, .inr (4, [.ref q8, .int 0])), (q8, .inl (ar 0, 8, .inl (fun _ => 0))), (q9, .inr (4, [.ref q10, .int 0])), (q10, .inl (ar 0, 8, .inl (fun _ => 0))), (q11, .inr (0, [.ref (z 0), .int 0, .int 0])), (q12, .inr (0, [.ref (z 0), .int 0, .int 0])), (q13, .inl (ar 0, 72, .inl (fun _ => 0))), (q14, .inr (1, [.null, .null, .int (-1), .null])), (q15, .inr (1, [.null, .null, .int (-1), .null])), (q16, .inr (1, [.null, .null, .int (-1), .null])), (q17, .inr (1, [.null, .null, .int (-1), .null])), (q18, .inr (1, [.null, .null, .int (-1), .null])), (q19, .inr (1, [.null, .null, .int (-1), .null]))] := hD
  exact W.vret hx hb hr (fun t ht hW => ⟨⟨(), rfl, trivial, q1, q2, q3, q4, q5, q6, q7, q8, q9, q10, q11, q12, q13, q14, q15, q16, q17, q18, q19, by rw [ht]; exact hP, hD⟩, hS.F ht⟩) hS.2.2 d_CM_init_31
set_option maxHeartbeats 4000000 in
set_option maxRecDepth 100000 in
theorem c_Mo_init (l : Launch) (dC : Nat → ClassId) (dI : Nat → Nat → Nat) (ar : Nat → ClassId) (N0 : Nat) (z : Nat → Nat) (h0 : Nat) (sz : Nat) : Met l ({ cls := "ChannelMachineModel", name := "<init>", desc := "()V" } : Jvm.MethodName) ((Jvm.Cond.code ({ cls := "ChannelMachineModel", name := "<init>", desc := "()V" } : Jvm.MethodName) prog_12_method_1_code (1 : Nat) (Option.none : Option Jvm.ClassFile.FieldType)) :: x_T) ({ frames := 1, cells := 28, slots := 3980, locals := 14 }) (x_Pc (dC, dI) ar N0 z [(h0, .inr (6, [.null, .null, .null, .null, .int 0, .int 0, .int 0, .int 0, .int 0, .int 0, .int 0, .null, .null, .null, .null, .null, .null, .null, .int 0, .null, .null, .null, .null, .null, .null, .null, .null, .null, .null, .int 0, .int 0, .int 0, .int 0, .int 0, .long 0, .null, .null, .null, .null, .null, .null, .null, .int 0, .int 0, .int 0]))] sz [.ref h0]) (va_Qv (fun _ : Unit => True) (fun _ t => ∃ (q1 : Nat) (q2 : Nat) (q3 : Nat) (q4 : Nat) (q5 : Nat) (q6 : Nat) (q7 : Nat) (q8 : Nat) (q9 : Nat) (q10 : Nat) (q11 : Nat) (q12 : Nat) (q13 : Nat) (q14 : Nat) (q15 : Nat) (q16 : Nat) (q17 : Nat) (q18 : Nat) (q19 : Nat) (q20 : Nat) (q21 : Nat) (q22 : Nat) (q23 : Nat) (q24 : Nat) (q25 : Nat) (q26 : Nat) (q27 : Nat) (q28 : Nat), va_P (dC, dI) x_cl [(h0, .inr (6, [.ref q1, .ref q2, .ref q3, .ref q4, .int 0, .int (-1), .int 0, .int 0, .int 0, .int 0, .int 0, .ref q5, .ref q6, .ref q7, .ref q8, .ref q9, .ref q10, .ref q11, .int 0, .ref q12, .ref q13, .ref q14, .ref q15, .ref q16, .ref q17, .ref q18, .ref q19, .ref q20, .ref q21, .int 0, .int (-1), .int 0, .int 0, .int 0, .long 0, .ref q22, .ref q23, .ref q24, .ref q25, .ref q26, .ref q27, .ref q28, .int 0, .int 0, .int 0])), (q1, .inl (ar 0, 72, .inl (fun _ => 0))), (q2, .inl (ar 0, 1200, .inl (fun _ => 0))), (q3, .inl (ar 0, 1200, .inl (fun _ => 0))), (q4, .inl (ar 0, 6, .inl (fun _ => 0))), (q5, .inl (ar 0, 80, .inl (fun _ => 0))), (q6, .inl (ar 0, 80, .inl (fun _ => 0))), (q7, .inl (ar 0, 80, .inl (fun _ => 0))), (q8, .inl (ar 0, 320, .inl (fun _ => 0))), (q9, .inl (ar 0, 40, .inl (fun _ => 0))), (q10, .inl (ar 0, 40, .inl (fun _ => 0))), (q11, .inl (ar 0, 8, .inl (fun _ => 0))), (q12, .inl (ar 3, 8, .inl (fun _ => 0))), (q13, .inl (ar 0, 90, .inl (fun _ => 0))), (q14, .inl (ar 0, 90, .inl (fun _ => 0))), (q15, .inl (ar 0, 90, .inl (fun _ => 0))), (q16, .inl (ar 0, 90, .inl (fun _ => 0))), (q17, .inl (ar 0, 90, .inl (fun _ => 0))), (q18, .inl (ar 0, 80, .inl (fun _ => 0))), (q19, .inl (ar 2, 90, .inr (.inl (fun _ => 0)))), (q20, .inl (ar 3, 90, .inl (fun _ => 0))), (q21, .inl (ar 3, 90, .inl (fun _ => 0))), (q22, .inl (ar 0, 6, .inl (fun _ => 0))), (q23, .inl (ar 0, 6, .inl (fun _ => 0))), (q24, .inl (ar 0, 6, .inl (fun _ => 0))), (q25, .inl (ar 0, 6, .inl (fun _ => 0))), (q26, .inl (ar 0, 6, .inl (fun _ => 0))), (q27, .inl (ar 0, 8, .inl (fun _ => 0))), (q28, .inl (ar 0, 8, .inl (fun _ => 0)))] t.heap ∧ va_D (va_A [(h0, .inr (6, [.null, .null, .null, .null, .int 0, .int 0, .int 0, .int 0, .int 0, .int 0, .int 0, .null, .null, .null, .null, .null, .null, .null, .int 0, .null, .null, .null, .null, .null, .null, .null, .null, .null, .null, .int 0, .int 0, .int 0, .int 0, .int 0, .long 0, .null, .null, .null, .null, .null, .null, .null, .int 0, .int 0, .int 0]))] sz) [(h0, .inr (6, [.ref q1, .ref q2, .ref q3, .ref q4, .int 0, .int (-1), .int 0, .int 0, .int 0, .int 0, .int 0, .ref q5, .ref q6, .ref q7, .ref q8, .ref q9, .ref q10, .ref q11, .int 0, .ref q12, .ref q13, .ref q14, .ref q15, .ref q16, .ref q17, .ref q18, .ref q19, .ref q20, .ref q21, .int 0, .int (-1), .int 0, .int 0, .int 0, .long 0, .ref q22, .ref q23, .ref q24, .ref q25, .ref q26, .ref q27, .ref q28, .int 0, .int 0, .int 0])), (q1, .inl (ar 0, 72, .inl (fun _ => 0))), (q2, .inl (ar 0, 1200, .inl (fun _ => 0))), (q3, .inl (ar 0, 1200, .inl (fun _ => 0))), (q4, .inl (ar 0, 6, .inl (fun _ => 0))), (q5, .inl (ar 0, 80, .inl (fun _ => 0))), (q6, .inl (ar 0, 80, .inl (fun _ => 0))), (q7, .inl (ar 0, 80, .inl (fun _ => 0))), (q8, .inl (ar 0, 320, .inl (fun _ => 0))), (q9, .inl (ar 0, 40, .inl (fun _ => 0))), (q10, .inl (ar 0, 40, .inl (fun _ => 0))), (q11, .inl (ar 0, 8, .inl (fun _ => 0))), (q12, .inl (ar 3, 8, .inl (fun _ => 0))), (q13, .inl (ar 0, 90, .inl (fun _ => 0))), (q14, .inl (ar 0, 90, .inl (fun _ => 0))), (q15, .inl (ar 0, 90, .inl (fun _ => 0))), (q16, .inl (ar 0, 90, .inl (fun _ => 0))), (q17, .inl (ar 0, 90, .inl (fun _ => 0))), (q18, .inl (ar 0, 80, .inl (fun _ => 0))), (q19, .inl (ar 2, 90, .inr (.inl (fun _ => 0)))), (q20, .inl (ar 3, 90, .inl (fun _ => 0))), (q21, .inl (ar 3, 90, .inl (fun _ => 0))), (q22, .inl (ar 0, 6, .inl (fun _ => 0))), (q23, .inl (ar 0, 6, .inl (fun _ => 0))), (q24, .inl (ar 0, 6, .inl (fun _ => 0))), (q25, .inl (ar 0, 6, .inl (fun _ => 0))), (q26, .inl (ar 0, 6, .inl (fun _ => 0))), (q27, .inl (ar 0, 8, .inl (fun _ => 0))), (q28, .inl (ar 0, 8, .inl (fun _ => 0)))]) (va_A [(h0, .inr (6, [.null, .null, .null, .null, .int 0, .int 0, .int 0, .int 0, .int 0, .int 0, .int 0, .null, .null, .null, .null, .null, .null, .null, .int 0, .null, .null, .null, .null, .null, .null, .null, .null, .null, .null, .int 0, .int 0, .int 0, .int 0, .int 0, .long 0, .null, .null, .null, .null, .null, .null, .null, .int 0, .int 0, .int 0]))] sz)) 28 3980 (va_A [(h0, .inr (6, [.null, .null, .null, .null, .int 0, .int 0, .int 0, .int 0, .int 0, .int 0, .int 0, .null, .null, .null, .null, .null, .null, .null, .int 0, .null, .null, .null, .null, .null, .null, .null, .null, .null, .null, .int 0, .int 0, .int 0, .int 0, .int 0, .long 0, .null, .null, .null, .null, .null, .null, .null, .int 0, .int 0, .int 0]))] sz) := by
  refine Met.ofW (cc := prog_12_method_1_code) (maxL := 1) (ret := none) (by decide) rfl ?_
  intro p e s m args below meth c s₁ B hml hv
  obtain ⟨rfl, hsz, hN0, hP, hU, hZ, hD0⟩ := hv
  have hK := hU.1
  have hx := B.exec
  have hb := B.bytes
  have hr := B.returns
  have hts : ∀ w ∈ x_T, w.before ([.ref h0] : List Value).toArray s = true := fun w h => atoms_spec (ws := (Jvm.Cond.code ({ cls := "ChannelMachineModel", name := "<init>", desc := "()V" } : Jvm.MethodName) prog_12_method_1_code (1 : Nat) (Option.none : Option Jvm.ClassFile.FieldType)) :: x_T) B.pre w (List.mem_cons_of_mem _ h)
  have hown : s.vm.findClass "ChannelMachineModel" = some m.cls := findClass_of_methodNamed B.named
  have hlocks := B.notSynchronized
  have hin : meth.name = "<init>" := (name_of_methodNamed B.named B.method).1
  subst hsz
  have hD := hD0.self (sz := s.heap.size)
  have hAN := x_AN hD0 hN0
  generalize hAe : va_A [(h0, .inr (6, [.null, .null, .null, .null, .int 0, .int 0, .int 0, .int 0, .int 0, .int 0, .int 0, .null, .null, .null, .null, .null, .null, .null, .int 0, .null, .null, .null, .null, .null, .null, .null, .null, .null, .null, .int 0, .int 0, .int 0, .int 0, .int 0, .long 0, .null, .null, .null, .null, .null, .null, .null, .int 0, .int 0, .int 0]))] s.heap.size = A at hD hAN ⊢
  have hA : ∀ q : Nat, s.heap.size ≤ q → A q := fun q h => by rw [← hAe]; exact Or.inr h
  have hS : va_S A s.heap s.heap [] := va_S.rf
  have hP : va_P (dC, dI) x_cl [(h0, .inr (6, [.null, .null, .null, .null, .int 0, .int 0, .int 0, .int 0, .int 0, .int 0, .int 0, .null, .null, .null, .null, .null, .null, .null, .int 0, .null, .null, .null, .null, .null, .null, .null, .null, .null, .null, .int 0, .int 0, .int 0, .int 0, .int 0, .long 0, .null, .null, .null, .null, .null, .null, .null, .int 0, .int 0, .int 0]))] s.heap := hP
  have hl := lv_entry ([.ref h0]) (n := 1) (Nat.le_of_ble_eq_true rfl)
  rw [lg_entry_eq]
  generalize (lg_sl ([.ref h0]) ++ List.replicate (1 - (lg_sl ([.ref h0])).length) Slot.unset).toArray = ls at hl ⊢
  have hl : lv_has ls 1 [(0, .ref h0)] := hl
  have hH0 : s.heap.size ≤ s.heap.size := Nat.le_refl _
  refine lv_aload_n hx hb d_Mo_init_0 rfl (lv_at hl 0 rfl) ?_
  refine W.objInit hx hb hown (hts _ k_966) (hts _ k_35) (hts _ k_36) rfl (by rw [hml]; exact hl.1) rfl d_Mo_init_1 (Nat.le_of_ble_eq_true rfl) (Nat.le_of_ble_eq_true rfl) ?_
  refine W.eq (g2 := F0 m 4 ls []) rfl ?_
  refine lv_aload_n hx hb d_Mo_init_4 rfl (lv_at hl 0 rfl) ?_
  refine lv_bipush (v := 72) hx hb d_Mo_init_5 (by decide) ?_
  refine x_newa (D := (dC, dI)) (ar := ar) (atype := .int) hx hb (hts _ k_76) (ty := .int) rfl hK hP hD hS hA (N' := 72) (a0 := (72, .inl (fun _ => 0))) (fun _ => rfl) (by decide) (by decide) (by decide) (Nat.le_of_ble_eq_true rfl) (Nat.le_of_ble_eq_true rfl) 0 rfl (by decide) d_Mo_init_7 (fun q1 H hP hD hS => ?_)
  have hP : va_P (dC, dI) x_cl [(h0, .inr (6, [.null, .null, .null, .null, .int 0, .int 0, .int 0, .int 0, .int 0, .int 0, .int 0, .null, .null, .null, .null, .null, .null, .null, .int 0, .null, .null, .null, .null, .null, .null, .null, .null, .null, .null, .int 0, .int 0, .int 0, .int 0, .int 0, .long 0, .null, .null, .null, .null, .null, .null, .null, .int 0, .int 0, .int 0])), (q1, .inl (ar 0, 72, .inl (fun _ => 0)))] H := hP
  have hD : va_D A [(h0, .inr (6, [.null, .null, .null, .null, .int 0, .int 0, .int 0, .int 0, .int 0, .int 0, .int 0, .null, .null, .null, .null, .null, .null, .null, .int 0, .null, .null, .null, .null, .null, .null, .null, .null, .null, .null, .int 0, .int 0, .int 0, .int 0, .int 0, .long 0, .null, .null, .null, .null, .null, .null, .null, .int 0, .int 0, .int 0])), (q1, .inl (ar 0, 72, .inl (fun _ => 0)))] := hD
  refine W.widen (k := 1) (n := 72) (Nat.le_of_ble_eq_true rfl) (Nat.le_of_ble_eq_true rfl) ?_
  refine va_putF (D := (dC, dI)) (ci := 6) (v := .ref q1) (ty := (.array .int)) (C := "ChannelMachineModel") (T := F_Mo) (N := 45) hx hb hts i_Mo t_Mo t_Mo_ok n_Mo hown hK hP hD hS 0 rfl rfl 0 (by decide) (hts _ k_967) (fun _ h9 => h9) rfl hin rfl (by decide +kernel) rfl rfl (Nat.le_of_ble_eq_true rfl) d_Mo_init_9 (fun H locs hP hD hS => ?_)
  have hP : va_P (dC, dI) x_cl [(h0, .inr (6, [.ref q1, .null, .null, .null, .int 0, .int 0, .int 0, .int 0, .int 0, .int 0, .int 0, .null, .null, .null, .null, .null, .null, .null, .int 0, .null, .null, .null, .null, .null, .null, .null, .null, .null, .null, .int 0, .int 0, .int 0, .int 0, .int 0, .long 0, .null, .null, .null, .null, .null, .null, .null, .int 0, .int 0, .int 0])), (q1, .inl (ar 0, 72, .inl (fun _ => 0)))] H := hP
  have hD : va_D A [(h0, .inr (6, [.ref q1, .null, .null, .null, .int 0, .int 0, .int 0, .int 0, .int 0, .int 0, .int 0, .null, .null, .null, .null, .null, .null, .null, .int 0, .null, .null, .null, .null, .null, .null, .null, .null, .null, .null, .int 0, .int 0, .int 0, .int 0, .int 0, .long 0, .null, .null, .null, .null, .null, .null, .null, .int 0, .int 0, .int 0])), (q1, .inl (ar 0, 72, .inl (fun _ => 0)))] := hD
  refine lv_aload_n hx hb d_Mo_init_12 rfl (lv_at hl 0 rfl) ?_
  refine lv_sipush (v := 1200) hx hb d_Mo_init_13 (by decide) ?_
  refine x_newa (D := (dC, dI)) (ar := ar) (atype := .int) hx hb (hts _ k_76) (ty := .int) rfl hK hP hD hS hA (N' := 1200) (a0 := (1200, .inl (fun _ => 0))) (fun _ => rfl) (by decide) (by decide) (by decide) (Nat.le_of_ble_eq_true rfl) (Nat.le_of_ble_eq_true rfl) 0 rfl (by decide) d_Mo_init_16 (fun q2 H hP hD hS => ?_)
  have hP : va_P (dC, dI) x_cl [(h0, .inr (6, [.ref q1, .null, .null, .null, .int 0, .int 0, .int 0, .int 0, .int 0, .int 0, .int 0, .null, .null, .null, .null, .null, .null, .null, .int 0, .null, .null, .null, .null, .null, .null, .null, .null, .null, .null, .int 0, .int 0, .int 0, .int 0, .int 0, .long 0, .null, .null, .null, .null, .null, .null, .null, .int 0, .int 0, .int 0])), (q1, .inl (ar 0, 72, .inl (fun _ => 0))), (q2, .inl (ar 0, 1200, .inl (fun _ => 0)))] H := hP
  have hD : va_D A [(h0, .inr (6, [.ref q1, .null, .null, .null, .int 0, .int 0, .int 0, .int 0, .int 0, .int 0, .int 0, .null, .null, .null, .null, .null, .null, .null, .int 0, .null, .null, .null, .null, .null, .null, .null, .null, .null, .null, .int 0, .int 0, .int 0, .int 0, .int 0, .long 0, .null, .null, .null, .null, .null, .null, .null, .int 0, .int 0, .int 0])), (q1, .inl (ar 0, 72, .inl (fun _ => 0))), (q2, .inl (ar 0, 1200, .inl (fun _ => 0)))] := hD
  refine W.widen (k := 2) (n := 1272) (Nat.le_of_ble_eq_true rfl) (Nat.le_of_ble_eq_true rfl) ?_
  refine va_putF (D := (dC, dI)) (ci := 6) (v := .ref q2) (ty := (.array .int)) (C := "ChannelMachineModel") (T := F_Mo) (N := 45) hx hb hts i_Mo t_Mo t_Mo_ok n_Mo hown hK hP hD hS 0 rfl rfl 1 (by decide) (hts _ k_968) (fun _ h9 => h9) rfl hin rfl (by decide +kernel) rfl rfl (Nat.le_of_ble_eq_true rfl) d_Mo_init_18 (fun H locs hP hD hS => ?_)
  have hP : va_P (dC, dI) x_cl [(h0, .inr (6, [.ref q1, .ref q2, .null, .null, .int 0, .int 0, .int 0, .int 0, .int 0, .int 0, .int 0, .null, .null, .null, .null, .null, .null, .null, .int 0, .null, .null, .null, .null, .null, .null, .null, .null, .null, .null, .int 0, .int 0, .int 0, .int 0, .int 0, .long 0, .null, .null, .null, .null, .null, .null, .null, .int 0, .int 0, .int 0])), (q1, .inl (ar 0, 72, .inl (fun _ => 0))), (q2, .inl (ar 0, 1200, .inl (fun _ => 0)))] H := hP
  have hD : va_D A [(h0, .inr (6, [.ref q1, .ref q2, .null, .null, .int 0, .int 0, .int 0, .int 0, .int 0, .int 0, .int 0, .null, .null, .null, .null, .null, .null, .null, .int 0, .null, .null, .null, .null, .null, .null, .null, .null, .null, .null, .int 0, .int 0, .int 0, .int 0, .int 0, .long 0, .null, .null, .null, .null, .null, .null, .null, .int 0, .int 0, .int 0])), (q1, .inl (ar 0, 72, .inl (fun _ => 0))), (q2, .inl (ar 0, 1200, .inl (fun _ => 0)))] := hD
  refine lv_aload_n hx hb d_Mo_init_21 rfl (lv_at hl 0 rfl) ?_
  refine lv_sipush (v := 1200) hx hb d_Mo_init_22 (by decide) ?_
  refine x_newa (D := (dC, dI)) (ar := ar) (atype := .int) hx hb (hts _ k_76) (ty := .int) rfl hK hP hD hS hA (N' := 1200) (a0 := (1200, .inl (fun _ => 0))) (fun _ => rfl) (by decide) (by decide) (by decide) (Nat.le_of_ble_eq_true rfl) (Nat.le_of_ble_eq_true rfl) 0 rfl (by decide) d_Mo_init_25 (fun q3 H hP hD hS => ?_)
  have hP : va_P (dC, dI) x_cl [(h0, .inr (6, [.ref q1, .ref q2, .null, .null, .int 0, .int 0, .int 0, .int 0, .int 0, .int 0, .int 0, .null, .null, .null, .null, .null, .null, .null, .int 0, .null, .null, .null, .null, .null, .null, .null, .null, .null, .null, .int 0, .int 0, .int 0, .int 0, .int 0, .long 0, .null, .null, .null, .null, .null, .null, .null, .int 0, .int 0, .int 0])), (q1, .inl (ar 0, 72, .inl (fun _ => 0))), (q2, .inl (ar 0, 1200, .inl (fun _ => 0))), (q3, .inl (ar 0, 1200, .inl (fun _ => 0)))] H := hP
  have hD : va_D A [(h0, .inr (6, [.ref q1, .ref q2, .null, .null, .int 0, .int 0, .int 0, .int 0, .int 0, .int 0, .int 0, .null, .null, .null, .null, .null, .null, .null, .int 0, .null, .null, .null, .null, .null, .null, .null, .null, .null, .null, .int 0, .int 0, .int 0, .int 0, .int 0, .long 0, .null, .null, .null, .null, .null, .null, .null, .int 0, .int 0, .int 0])), (q1, .inl (ar 0, 72, .inl (fun _ => 0))), (q2, .inl (ar 0, 1200, .inl (fun _ => 0))), (q3, .inl (ar 0, 1200, .inl (fun _ => 0)))] := hD
  refine W.widen (k := 3) (n := 2472) (Nat.le_of_ble_eq_true rfl) (Nat.le_of_ble_eq_true rfl) ?_
  refine va_putF (D := (dC, dI)) (ci := 6) (v := .ref q3) (ty := (.array .int)) (C := "ChannelMachineModel") (T := F_Mo) (N := 45) hx hb hts i_Mo t_Mo t_Mo_ok n_Mo hown hK hP hD hS 0 rfl rfl 2 (by decide) (hts _ k_969) (fun _ h9 => h9) rfl hin rfl (by decide +kernel) rfl rfl (Nat.le_of_ble_eq_true rfl) d_Mo_init_27 (fun H locs hP hD hS => ?_)
  have hP : va_P (dC, dI) x_cl [(h0, .inr (6, [.ref q1, .ref q2, .ref q3, .null, .int 0, .int 0, .int 0, .int 0, .int 0, .int 0, .int 0, .null, .null, .null, .null, .null, .null, .null, .int 0, .null, .null, .null, .null, .null, .null, .null, .null, .null, .null, .int 0, .int 0, .int 0, .int 0, .int 0, .long 0, .null, .null, .null, .null, .null, .null, .null, .int 0, .int 0, .int 0])), (q1, .inl (ar 0, 72, .inl (fun _ => 0))), (q2, .inl (ar 0, 1200, .inl (fun _ => 0))), (q3, .inl (ar 0, 1200, .inl (fun _ => 0)))] H := hP
  have hD : va_D A [(h0, .inr (6, [.ref q1, .ref q2, .ref q3, .null, .int 0, .int 0, .int 0, .int 0, .int 0, .int 0, .int 0, .null, .null, .null, .null, .null, .null, .null, .int 0, .null, .null, .null, .null, .null, .null, .null, .null, .null, .null, .int 0, .int 0, .int 0, .int 0, .int 0, .long 0, .null, .null, .null, .null, .null, .null, .null, .int 0, .int 0, .int 0])), (q1, .inl (ar 0, 72, .inl (fun _ => 0))), (q2, .inl (ar 0, 1200, .inl (fun _ => 0))), (q3, .inl (ar 0, 1200, .inl (fun _ => 0)))] := hD
  refine lv_aload_n hx hb d_Mo_init_30 rfl (lv_at hl 0 rfl) ?_
  refine lv_bipush (v := 6) hx hb d_Mo_init_31 (by decide) ?_
  refine x_newa (D := (dC, dI)) (ar := ar) (atype := .int) hx hb (hts _ k_76) (ty := .int) rfl hK hP hD hS hA (N' := 6) (a0 := (6, .inl (fun _ => 0))) (fun _ => rfl) (by decide) (by decide) (by decide) (Nat.le_of_ble_eq_true rfl) (Nat.le_of_ble_eq_true rfl) 0 rfl (by decide) d_Mo_init_33 (fun q4 H hP hD hS => ?_)
  have hP : va_P (dC, dI) x_cl [(h0, .inr (6, [.ref q1, .ref q2, .ref q3, .null, .int 0, .int 0, .int 0, .int 0, .int 0, .int 0, .int 0, .null, .null, .null, .null, .null, .null, .null, .int 0, .null, .null, .null, .null, .null, .null, .null, .null, .null, .null, .int 0, .int 0, .int 0, .int 0, .int 0, .long 0, .null, .null, .null, .null, .null, .null, .null, .int 0, .int 0, .int 0])), (q1, .inl (ar 0, 72, .inl (fun _ => 0))), (q2, .inl (ar 0, 1200, .inl (fun _ => 0))), (q3, .inl (ar 0, 1200, .inl (fun _ => 0))), (q4, .inl (ar 0, 6, .inl (fun _ => 0)))] H := hP
  have hD : va_D A [(h0, .inr (6, [.ref q1, .ref q2, .ref q3, .null, .int 0, .int 0, .int 0, .int 0, .int 0, .int 0, .int 0, .null, .null, .null, .null, .null, .null, .null, .int 0, .null, .null, .null, .null, .null, .null, .null, .null, .null, .null, .int 0, .int 0, .int 0, .int 0, .int 0, .long 0, .null, .null, .null, .null, .null, .null, .null, .int 0, .int 0, .int 0])), (q1, .inl (ar 0, 72, .inl (fun _ => 0))), (q2, .inl (ar 0, 1200, .inl (fun _ => 0))), (q3, .inl (ar 0, 1200, .inl (fun _ => 0))), (q4, .inl (ar 0, 6, .inl (fun _ => 0)))] := hD
  refine W.widen (k := 4) (n := 2478) (Nat.le_of_ble_eq_true rfl) (Nat.le_of_ble_eq_true rfl) ?_
  refine va_putF (D := (dC, dI)) (ci := 6) (v := .ref q4) (ty := (.array .int)) (C := "ChannelMachineModel") (T := F_Mo) (N := 45) hx hb hts i_Mo t_Mo t_Mo_ok n_Mo hown hK hP hD hS 0 rfl rfl 3 (by decide) (hts _ k_970) (fun _ h9 => h9) rfl hin rfl (by decide +kernel) rfl rfl (Nat.le_of_ble_eq_true rfl) d_Mo_init_35 (fun H locs hP hD hS => ?_)
  have hP : va_P (dC, dI) x_cl [(h0, .inr (6, [.ref q1, .ref q2, .ref q3, .ref q4, .int 0, .int 0, .int 0, .int 0, .int 0, .int 0, .int 0, .null, .null, .null, .null, .null, .null, .null, .int 0, .null, .null, .null, .null, .null, .null, .null, .null, .null, .null, .int 0, .int 0, .int 0, .int 0, .int 0, .long 0, .null, .null, .null, .null, .null, .null, .null, .int 0, .int 0, .int 0])), (q1, .inl (ar 0, 72, .inl (fun _ => 0))), (q2, .inl (ar 0, 1200, .inl (fun _ => 0))), (q3, .inl (ar 0, 1200, .inl (fun _ => 0))), (q4, .inl (ar 0, 6, .inl (fun _ => 0)))] H := hP
  have hD : va_D A [(h0, .inr (6, [.ref q1, .ref q2, .ref q3, .ref q4, .int 0, .int 0, .int 0, .int 0, .int 0, .int 0, .int 0, .null, .null, .null, .null, .null, .null, .null, .int 0, .null, .null, .null, .null, .null, .null, .null, .null, .null, .null, .int 0, .int 0, .int 0, .int 0, .int 0, .long 0, .null, .null, .null, .null, .null, .null, .null, .int 0, .int 0, .int 0])), (q1, .inl (ar 0, 72, .inl (fun _ => 0))), (q2, .inl (ar 0, 1200, .inl (fun _ => 0))), (q3, .inl (ar 0, 1200, .inl (fun _ => 0))), (q4, .inl (ar 0, 6, .inl (fun _ => 0)))] := hD
  refine lv_aload_n hx hb d_Mo_init_38 rfl (lv_at hl 0 rfl) ?_
  refine lv_iconst (v := (-1)) hx hb d_Mo_init_39 (by decide) ?_
  refine va_put (D := (dC, dI)) (ci := 6) (v := .int (-1)) (ty := .int) (C := "ChannelMachineModel") (T := F_Mo) (N := 45) hx hb hts i_Mo t_Mo t_Mo_ok n_Mo hown hK hP hD hS 0 rfl rfl 5 (by decide) (hts _ k_972) (fun _ h9 => h9) rfl (by decide +kernel) rfl rfl (Nat.le_of_ble_eq_true rfl) d_Mo_init_40 (fun H locs hP hD hS => ?_)
  have hP : va_P (dC, dI) x_cl [(h0, .inr (6, [.ref q1, .ref q2, .ref q3, .ref q4, .int 0, .int (-1), .int 0, .int 0, .int 0, .int 0, .int 0, .null, .null, .null, .null, .null, .null, .null, .int 0, .null, .null, .null, .null, .null, .null, .null, .null, .null, .null, .int 0, .int 0, .int 0, .int 0, .int 0, .long 0, .null, .null, .null, .null, .null, .null, .null, .int 0, .int 0, .int 0])), (q1, .inl (ar 0, 72, .inl (fun _ => 0))), (q2, .inl (ar 0, 1200, .inl (fun _ => 0))), (q3, .inl (ar 0, 1200, .inl (fun _ => 0))), (q4, .inl (ar 0, 6, .inl (fun _ => 0)))] H := hP
  have hD : va_D A [(h0, .inr (6, [.ref q1, .ref q2, .ref q3, .ref q4, .int 0, .int (-1), .int 0, .int 0, .int 0, .int 0, .int 0, .null, .null, .null, .null, .null, .null, .null, .int 0, .null, .null, .null, .null, .null, .null, .null, .null, .null, .null, .int 0, .int 0, .int 0, .int 0, .int 0, .long 0, .null, .null, .null, .null, .null, .null, .null, .int 0, .int 0, .int 0])), (q1, .inl (ar 0, 72, .inl (fun _ => 0))), (q2, .inl (ar 0, 1200, .inl (fun _ => 0))), (q3, .inl (ar 0, 1200, .inl (fun _ => 0))), (q4, .inl (ar 0, 6, .inl (fun _ => 0)))] := hD
  refine lv_aload_n hx hb d_Mo_init_43 rfl (lv_at hl 0 rfl) ?_
  refine lv_bipush (v := 80) hx hb d_Mo_init_44 (by decide) ?_
  refine x_newa (D := (dC, dI)) (ar := ar) (atype := .int) hx hb (hts _ k_76) (ty := .int) rfl hK hP hD hS hA (N' := 80) (a0 := (80, .inl (fun _ => 0))) (fun _ => rfl) (by decide) (by decide) (by decide) (Nat.le_of_ble_eq_true rfl) (Nat.le_of_ble_eq_true rfl) 0 rfl (by decide) d_Mo_init_46 (fun q5 H hP hD hS => ?_)
  have hP : va_P (dC, dI) x_cl [(h0, .inr (6, [.ref q1, .ref q2, .ref q3, .ref q4, .int 0, .int (-1), .int 0, .int 0, .int 0, .int 0, .int 0, .null, .null, .null, .null, .null, .null, .null, .int 0, .null, .null, .null, .null, .null, .null, .null, .null, .null, .null, .int 0, .int 0, .int 0, .int 0, .int 0, .long 0, .null, .null, .null, .null, .null, .null, .null, .int 0, .int 0, .int 0])), (q1, .inl (ar 0, 72, .inl (fun _ => 0))), (q2, .inl (ar 0, 1200, .inl (fun _ => 0))), (q3, .inl (ar 0, 1200, .inl (fun _ => 0))), (q4, .inl (ar 0, 6, .inl (fun _ => 0))), (q5, .inl (ar 0, 80, .inl (fun _ => 0)))] H := hP
  have hD : va_D A [(h0, .inr (6, [.ref q1, .ref q2, .ref q3, .ref q4, .int 0, .int (-1), .int 0, .int 0, .int 0, .int 0, .int 0, .null, .null, .null, .null, .null, .null, .null, .int 0, .null, .null, .null, .null, .null, .null, .null, .null, .null, .null, .int 0, .int 0, .int 0, .int 0, .int 0, .long 0, .null, .null, .null, .null, .null, .null, .null, .int 0, .int 0, .int 0])), (q1, .inl (ar 0, 72, .inl (fun _ => 0))), (q2, .inl (ar 0, 1200, .inl (fun _ => 0))), (q3, .inl (ar 0, 1200, .inl (fun _ => 0))), (q4, .inl (ar 0, 6, .inl (fun _ => 0))), (q5, .inl (ar 0, 80, .inl (fun _ => 0)))] := hD
  refine W.widen (k := 5) (n := 2558) (Nat.le_of_ble_eq_true rfl) (Nat.le_of_ble_eq_true rfl) ?_
  refine va_putF (D := (dC, dI)) (ci := 6) (v := .ref q5) (ty := (.array .int)) (C := "ChannelMachineModel") (T := F_Mo) (N := 45) hx hb hts i_Mo t_Mo t_Mo_ok n_Mo hown hK hP hD hS 0 rfl rfl 11 (by decide) (hts _ k_978) (fun _ h9 => h9) rfl hin rfl (by decide +kernel) rfl rfl (Nat.le_of_ble_eq_true rfl) d_Mo_init_48 (fun H locs hP hD hS => ?_)
  have hP : va_P (dC, dI) x_cl [(h0, .inr (6, [.ref q1, .ref q2, .ref q3, .ref q4, .int 0, .int (-1), .int 0, .int 0, .int 0, .int 0, .int 0, .ref q5, .null, .null, .null, .null, .null, .null, .int 0, .null, .null, .null, .null, .null, .null, .null, .null, .null, .null, .int 0, .int 0, .int 0, .int 0, .int 0, .long 0, .null, .null, .null, .null, .null, .null, .null, .int 0, .int 0, .int 0])), (q1, .inl (ar 0, 72, .inl (fun _ => 0))), (q2, .inl (ar 0, 1200, .inl (fun _ => 0))), (q3, .inl (ar 0, 1200, .inl (fun _ => 0))), (q4, .inl (ar 0, 6, .inl (fun _ => 0))), (q5, .inl (ar 0, 80, .inl (fun _ => 0)))] H := hP
  have hD : va_D A [(h0, .inr (6, [.ref q1, .ref q2, .ref q3, .ref q4, .int 0, .int (-1), .int 0, .int 0, .int 0, .int 0, .int 0, .ref q5, .null, .null, .null, .null, .null, .null, .int 0, .null, .null, .null, .null, .null, .null, .null, .null, .null, .null, .int 0, .int 0, .int 0, .int 0, .int 0, .long 0, .null, .null, .null, .null, .null, .null, .null, .int 0, .int 0, .int 0])), (q1, .inl (ar 0, 72, .inl (fun _ => 0))), (q2, .inl (ar 0, 1200, .inl (fun _ => 0))), (q3, .inl (ar 0, 1200, .inl (fun _ => 0))), (q4, .inl (ar 0, 6, .inl (fun _ => 0))), (q5, .inl (ar 0, 80, .inl (fun _ => 0)))] := hD
  refine lv_aload_n hx hb d_Mo_init_51 rfl (lv_at hl 0 rfl) ?_
  refine lv_bipush (v := 80) hx hb d_Mo_init_52 (by decide) ?_
  refine x_newa (D := (dC, dI)) (ar := ar) (atype := .int) hx hb (hts _ k_76) (ty := .int) rfl hK hP hD hS hA (N' := 80) (a0 := (80, .inl (fun _ => 0))) (fun _ => rfl) (by decide) (by decide) (by decide) (Nat.le_of_ble_eq_true rfl) (Nat.le_of_ble_eq_true rfl) 0 rfl (by decide) d_Mo_init_54 (fun q6 H hP hD hS => ?_)
  have hP : va_P (dC, dI) x_cl [(h0, .inr (6, [.ref q1, .ref q2, .ref q3, .ref q4, .int 0, .int (-1), .int 0, .int 0, .int 0, .int 0, .int 0, .ref q5, .null, .null, .null, .null, .null, .null, .int 0, .null, .null, .null, .null, .null, .null, .null, .null, .null, .null, .int 0, .int 0, .int 0, .int 0, .int 0, .long 0, .null, .null, .null, .null, .null, .null, .null, .int 0, .int 0, .int 0])), (q1, .inl (ar 0, 72, .inl (fun _ => 0))), (q2, .inl (ar 0, 1200, .inl (fun _ => 0))), (q3, .inl (ar 0, 1200, .inl (fun _ => 0))), (q4, .inl (ar 0, 6, .inl (fun _ => 0))), (q5, .inl (ar 0, 80, .inl (fun _ => 0))), (q6, .inl (ar 0, 80, .inl (fun _ => 0)))] H := hP
  have hD : va_D A [(h0, .inr (6, [.ref q1, .ref q2, .ref q3, .ref q4, .int 0, .int (-1), .int 0, .int 0, .int 0, .int 0, .int 0, .ref q5, .null, .null, .null, .null, .null, .null, .int 0, .null, .null, .null, .null, .null, .null, .null, .null, .null, .null, .int 0, .int 0, .int 0, .int 0, .int 0, .long 0, .null, .null, .null, .null, .null, .null, .null, .int 0, .int 0, .int 0])), (q1, .inl (ar 0, 72, .inl (fun _ => 0))), (q2, .inl (ar 0, 1200, .inl (fun _ => 0))), (q3, .inl (ar 0, 1200, .inl (fun _ => 0))), (q4, .inl (ar 0, 6, .inl (fun _ => 0))), (q5, .inl (ar 0, 80, .inl (fun _ => 0))), (q6, .inl (ar 0, 80, .inl (fun _ => 0)))] := hD
  refine W.widen (k := 6) (n := 2638) (Nat.le_of_ble_eq_true rfl) (Nat.le_of_ble_eq_true rfl) ?_
  refine va_putF (D := (dC, dI)) (ci := 6) (v := .ref q6) (ty := (.array .int)) (C := "ChannelMachineModel") (T := F_Mo) (N := 45) hx hb hts i_Mo t_Mo t_Mo_ok n_Mo hown hK hP hD hS 0 rfl rfl 12 (by decide) (hts _ k_979) (fun _ h9 => h9) rfl hin rfl (by decide +kernel) rfl rfl (Nat.le_of_ble_eq_true rfl) d_Mo_init_56 (fun H locs hP hD hS => ?_)
  have hP : va_P (dC, dI) x_cl [(h0, .inr (6, [.ref q1, .ref q2, .ref q3, .ref q4, .int 0, .int (-1), .int 0, .int 0, .int 0, .int 0, .int 0, .ref q5, .ref q6, .null, .null, .null, .null, .null, .int 0, .null, .null, .null, .null, .null, .null, .null, .null, .null, .null, .int 0, .int 0, .int 0, .int 0, .int 0, .long 0, .null, .null, .null, .null, .null, .null, .null, .int 0, .int 0, .int 0])), (q1, .inl (ar 0, 72, .inl (fun _ => 0))), (q2, .inl (ar 0, 1200, .inl (fun _ => 0))), (q3, .inl (ar 0, 1200, .inl (fun _ => 0))), (q4, .inl (ar 0, 6, .inl (fun _ => 0))), (q5, .inl (ar 0, 80, .inl (fun _ => 0))), (q6, .inl (ar 0, 80, .inl (fun _ => 0)))] H := hP
  have hD : va_D A [(h0, .inr (6, [.ref q1, .ref q2, .ref q3, .ref q4, .int 0, .int (-1), .int 0, .int 0, .int 0, .int 0, .int 0, .ref q5, .ref q6, .null, .null, .null, .null, .null, .int 0, .null, .null, .null, .null, .null, .null, .null, .null, .null, .null, .int 0, .int 0, .int 0, .int 0, .int 0, .long 0, .null, .null, .null, .null, .null, .null, .null, .int 0, .int 0, .int 0])), (q1, .inl (ar 0, 72, .inl (fun _ => 0))), (q2, .inl (ar 0, 1200, .inl (fun _ => 0))), (q3, .inl (ar 0, 1200, .inl (fun _ => 0))), (q4, .inl (ar 0, 6, .inl (fun _ => 0))), (q5, .inl (ar 0, 80, .inl (fun _ => 0))), (q6, .inl (ar 0, 80, .inl (fun _ => 0)))] := hD
  refine lv_aload_n hx hb d_Mo_init_59 rfl (lv_at hl 0 rfl) ?_
  refine lv_bipush (v := 80) hx hb d_Mo_init_60 (by decide) ?_
  refine x_newa (D := (dC, dI)) (ar := ar) (atype := .int) hx hb (hts _ k_76) (ty := .int) rfl hK hP hD hS hA (N' := 80) (a0 := (80, .inl (fun _ => 0))) (fun _ => rfl) (by decide) (by decide) (by decide) (Nat.le_of_ble_eq_true rfl) (Nat.le_of_ble_eq_true rfl) 0 rfl (by decide) d_Mo_init_62 (fun q7 H hP hD hS => ?_)
  have hP : va_P (dC, dI) x_cl [(h0, .inr (6, [.ref q1, .ref q2, .ref q3, .ref q4, .int 0, .int (-1), .int 0, .int 0, .int 0, .int 0, .int 0, .ref q5, .ref q6, .null, .null, .null, .null, .null, .int 0, .null, .null, .null, .null, .null, .null, .null, .null, .null, .null, .int 0, .int 0, .int 0, .int 0, .int 0, .long 0, .null, .null, .null, .null, .null, .null, .null, .int 0, .int 0, .int 0])), (q1, .inl (ar 0, 72, .inl (fun _ => 0))), (q2, .inl (ar 0, 1200, .inl (fun _ => 0))), (q3, .inl (ar 0, 1200, .inl (fun _ => 0))), (q4, .inl (ar 0, 6, .inl (fun _ => 0))), (q5, .inl (ar 0, 80, .inl (fun _ => 0))), (q6, .inl (ar 0, 80, .inl (fun _ => 0))), (q7, .inl (ar 0, 80, .inl (fun _ => 0)))] H := hP
  have hD : va_D A [(h0, .inr (6, [.ref q1, .ref q2, .ref q3, .ref q4, .int 0, .int (-1), .int 0, .int 0, .int 0, .int 0, .int 0, .ref q5, .ref q6, .null, .null, .null, .null, .null, .int 0, .null, .null, .null, .null, .null, .null, .null, .null, .null, .null, .int 0, .int 0, .int 0, .int 0, .int 0, .long 0, .null, .null, .null, .null, .null, .null, .null, .int 0, .int 0, .int 0])), (q1, .inl (ar 0, 72, .inl (fun _ => 0))), (q2, .inl (ar 0, 1200, .inl (fun _ => 0))), (q3, .inl (ar 0, 1200, .inl (fun _ => 0))), (q4, .inl (ar 0, 6, .inl (fun _ => 0))), (q5, .inl (ar 0, 80, .inl (fun _ => 0))), (q6, .inl (ar 0, 80, .inl (fun _ => 0))), (q7, .inl (ar 0, 80, .inl (fun _ => 0)))] := hD
  refine W.widen (k := 7) (n := 2718) (Nat.le_of_ble_eq_true rfl) (Nat.le_of_ble_eq_true rfl) ?_
  refine va_putF (D := (dC, dI)) (ci := 6) (v := .ref q7) (ty := (.array .int)) (C := "ChannelMachineModel") (T := F_Mo) (N := 45) hx hb hts i_Mo t_Mo t_Mo_ok n_Mo hown hK hP hD hS 0 rfl rfl 13 (by decide) (hts _ k_980) (fun _ h9 => h9) rfl hin rfl (by decide +kernel) rfl rfl (Nat.le_of_ble_eq_true rfl) d_Mo_init_64 (fun H locs hP hD hS => ?_)
  have hP : va_P (dC, dI) x_cl [(h0, .inr (6, [.ref q1, .ref q2, .ref q3, .ref q4, .int 0, .int (-1), .int 0, .int 0, .int 0, .int 0, .int 0, .ref q5, .ref q6, .ref q7, .null, .null, .null, .null, .int 0, .null, .null, .null, .null, .null, .null, .null, .null, .null, .null, .int 0, .int 0, .int 0, .int 0, .int 0, .long 0, .null, .null, .null, .null, .null, .null, .null, .int 0, .int 0, .int 0])), (q1, .inl (ar 0, 72, .inl (fun _ => 0))), (q2, .inl (ar 0, 1200, .inl (fun _ => 0))), (q3, .inl (ar 0, 1200, .inl (fun _ => 0))), (q4, .inl (ar 0, 6, .inl (fun _ => 0))), (q5, .inl (ar 0, 80, .inl (fun _ => 0))), (q6, .inl (ar 0, 80, .inl (fun _ => 0))), (q7, .inl (ar 0, 80, .inl (fun _ => 0)))] H := hP
  have hD : va_D A [(h0, .inr (6, [.ref q1, .ref q2, .ref q3, .ref q4, .int 0, .int (-1), .int 0, .int 0, .int 0, .int 0, .int 0, .ref q5, .ref q6, .ref q7, .null, .null, .null, .null, .int 0, .null, .null, .null, .null, .null, .null, .null, .null, .null, .null, .int 0, .int 0, .int 0, .int 0, .int 0, .long 0, .null, .null, .null, .null, .null, .null, .null, .int 0, .int 0, .int 0])), (q1, .inl (ar 0, 72, .inl (fun _ => 0))), (q2, .inl (ar 0, 1200, .inl (fun _ => 0))), (q3, .inl (ar 0, 1200, .inl (fun _ => 0))), (q4, .inl (ar 0, 6, .inl (fun _ => 0))), (q5, .inl (ar 0, 80, .inl (fun _ => 0))), (q6, .inl (ar 0, 80, .inl (fun _ => 0))), (q7, .inl (ar 0, 80, .inl (fun _ => 0)))] := hD
  refine lv_aload_n hx hb d_Mo_init_67 rfl (lv_at hl 0 rfl) ?_
  refine lv_sipush (v := 320) hx hb d_Mo_init_68 (by decide) ?_
  refine x_newa (D := (dC, dI)) (ar := ar) (atype := .int) hx hb (hts _ k_76) (ty := .int) rfl hK hP hD hS hA (N' := 320) (a0 := (320, .inl (fun _ => 0))) (fun _ => rfl) (by decide) (by decide) (by decide) (Nat.le_of_ble_eq_true rfl) (Nat.le_of_ble_eq_true rfl) 0 rfl (by decide) d_Mo_init_71 (fun q8 H hP hD hS => ?_)
  have hP : va_P (dC, dI) x_cl [(h0, .inr (6, [.ref q1, .ref q2, .ref q3, .ref q4, .int 0, .int (-1), .int 0, .int 0, .int 0, .int 0, .int 0, .ref q5, .ref q6, .ref q7, .null, .null, .null, .null, .int 0, .null, .null, .null, .null, .null, .null, .null, .null, .null, .null, .int 0, .int 0, .int 0, .int 0, .int 0, .long 0, .null, .null, .null, .null, .null, .null, .null, .int 0, .int 0, .int 0])), (q1, .inl (ar 0, 72, .inl (fun _ => 0))), (q2, .inl (ar 0, 1200, .inl (fun _ => 0))), (q3, .inl (ar 0, 1200, .inl (fun _ => 0))), (q4, .inl (ar 0, 6, .inl (fun _ => 0))), (q5, .inl (ar 0, 80, .inl (fun _ => 0))), (q6, .inl (ar 0, 80, .inl (fun _ => 0))), (q7, .inl (ar 0, 80, .inl (fun _ => 0))), (q8, .inl (ar 0, 320, .inl (fun _ => 0)))] H := hP
  have hD : va_D A [(h0, .inr (6, [.ref q1, .ref q2, .ref q3, .ref q4, .int 0, .int (-1), .int 0, .int 0, .int 0, .int 0, .int 0, .ref q5, .ref q6, .ref q7, .null, .null, .null, .null, .int 0, .null, .null, .null, .null, .null, .null, .null, .null, .null, .null, .int 0, .int 0, .int 0, .int 0, .int 0, .long 0, .null, .null, .null, .null, .null, .null, .null, .int 0, .int 0, .int 0])), (q1, .inl (ar 0, 72, .inl (fun _ => 0))), (q2, .inl (ar 0, 1200, .inl (fun _ => 0))), (q3, .inl (ar 0, 1200, .inl (fun _ => 0))), (q4, .inl (ar 0, 6, .inl (fun _ => 0))), (q5, .inl (ar 0, 80, .inl (fun _ => 0))), (q6, .inl (ar 0, 80, .inl (fun _ => 0))), (q7, .inl (ar 0, 80, .inl (fun _ => 0))), (q8, .inl (ar 0, 320, .inl (fun _ => 0)))] := hD
  refine W.widen (k := 8) (n := 3038) (Nat.le_of_ble_eq_true rfl) (Nat.le_of_ble_eq_true rfl) ?_
  refine va_putF (D := (dC, dI)) (ci := 6) (v := .ref q8) (ty := (.array .int)) (C := "ChannelMachineModel") (T := F_Mo) (N := 45) hx hb hts i_Mo t_Mo t_Mo_ok n_Mo hown hK hP hD hS 0 rfl rfl 14 (by decide) (hts _ k_981) (fun _ h9 => h9) rfl hin rfl (by decide +kernel) rfl rfl (Nat.le_of_ble_eq_true rfl) d_Mo_init_73 (fun H locs hP hD hS => ?_)
  have hP : va_P (dC, dI) x_cl [(h0, .inr (6, [.ref q1, .ref q2, .ref q3, .ref q4, .int 0, .int (-1), .int 0, .int 0, .int 0, .int 0, .int 0, .ref q5, .ref q6, .ref q7, .ref q8, .null, .null, .null, .int 0, .null, .null, .null, .null, .null, .null, .null, .null, .null, .null, .int 0, .int 0, .int 0, .int 0, .int 0, .long 0, .null, .null, .null, .null, .null, .null, .null, .int 0, .int 0, .int 0])), (q1, .inl (ar 0, 72, .inl (fun _ => 0))), (q2, .inl (ar 0, 1200, .inl (fun _ => 0))), (q3, .inl (ar 0, 1200, .inl (fun _ => 0))), (q4, .inl (ar 0, 6, .inl (fun _ => 0))), (q5, .inl (ar 0, 80, .inl (fun _ => 0))), (q6, .inl (ar 0, 80, .inl (fun _ => 0))), (q7, .inl (ar 0, 80, .inl (fun _ => 0))), (q8, .inl (ar 0, 320, .inl (fun _ => 0)))] H := hP
  have hD : va_D A [(h0, .inr (6, [.ref q1, .ref q2, .ref q3, .ref q4, .int 0, .int (-1), .int 0, .int 0, .int 0, .int 0, .int 0, .ref q5, .ref q6, .ref q7, .ref q8, .null, .null, .null, .int 0, .null, .null, .null, .null, .null, .null, .null, .null, .null, .null, .int 0, .int 0, .int 0, .int 0, .int 0, .long 0, .null, .null, .null, .null, .null, .null, .null, .int 0, .int 0, .int 0])), (q1, .inl (ar 0, 72, .inl (fun _ => 0))), (q2, .inl (ar 0, 1200, .inl (fun _ => 0))), (q3, .inl (ar 0, 1200, .inl (fun _ => 0))), (q4, .inl (ar 0, 6, .inl (fun _ => 0))), (q5, .inl (ar 0, 80, .inl (fun _ => 0))), (q6, .inl (ar 0, 80, .inl (fun _ => 0))), (q7, .inl (ar 0, 80, .inl (fun _ => 0))), (q8, .inl (ar 0, 320, .inl (fun _ => 0)))] := hD
  refine lv_aload_n hx hb d_Mo_init_76 rfl (lv_at hl 0 rfl) ?_
  refine lv_bipush (v := 40) hx hb d_Mo_init_77 (by decide) ?_
  refine x_newa (D := (dC, dI)) (ar := ar) (atype := .int) hx hb (hts _ k_76) (ty := .int) rfl hK hP hD hS hA (N' := 40) (a0 := (40, .inl (fun _ => 0))) (fun _ => rfl) (by decide) (by decide) (by decide) (Nat.le_of_ble_eq_true rfl) (Nat.le_of_ble_eq_true rfl) 0 rfl (by decide) d_Mo_init_79 (fun q9 H hP hD hS => ?_)
  have hP : va_P (dC, dI) x_cl [(h0, .inr (6, [.ref q1, .ref q2, .ref q3, .ref q4, .int 0, .int (-1), .int 0, .int 0, .int 0, .int 0, .int 0, .ref q5, .ref q6, .ref q7, .ref q8, .null, .null, .null, .int 0, .null, .null, .null, .null, .null, .null, .null, .null, .null, .null, .int 0, .int 0, .int 0, .int 0, .int 0, .long 0, .null, .null, .null, .null, .null, .null, .null, .int 0, .int 0, .int 0])), (q1, .inl (ar 0, 72, .inl (fun _ => 0))), (q2, .inl (ar 0, 1200, .inl (fun _ => 0))), (q3, .inl (ar 0, 1200, .inl (fun _ => 0))), (q4, .inl (ar 0, 6, .inl (fun _ => 0))), (q5, .inl (ar 0, 80, .inl (fun _ => 0))), (q6, .inl (ar 0, 80, .inl (fun _ => 0))), (q7, .inl (ar 0, 80, .inl (fun _ => 0))), (q8, .inl (ar 0, 320, .inl (fun _ => 0))), (q9, .inl (ar 0, 40, .inl (fun _ => 0)))] H := hP
  have hD : va_D A [(h0, .inr (6, [.ref q1, .ref q2, .ref q3, .ref q4, .int 0, .int (-1), .int 0, .int 0, .int 0, .int 0, .int 0, .ref q5, .ref q6, .ref q7, .ref q8, .null, .null, .null, .int 0, .null, .null, .null, .null, .null, .null, .null, .null, .null, .null, .int 0, .int 0, .int 0, .int 0, .int 0, .long 0, .null, .null, .null, .null, .null, .null, .null, .int 0, .int 0, .int 0])), (q1, .inl (ar 0, 72, .inl (fun _ => 0))), (q2, .inl (ar 0, 1200, .inl (fun _ => 0))), (q3, .inl (ar 0, 1200, .inl (fun _ => 0))), (q4, .inl (ar 0, 6, .inl (fun _ => 0))), (q5, .inl (ar 0, 80, .inl (fun _ => 0))), (q6, .inl (ar 0, 80, .inl (fun _ => 0))), (q7, .inl (ar 0, 80, .inl (fun _ => 0))), (q8, .inl (ar 0, 320, .inl (fun _ => 0))), (q9, .inl (ar 0, 40, .inl (fun _ => 0)))] := hD
  refine W.widen (k := 9) (n := 3078) (Nat.le_of_ble_eq_true rfl) (Nat.le_of_ble_eq_true rfl) ?_
  refine va_putF (D := (dC, dI)) (ci := 6) (v := .ref q9) (ty := (.array .int)) (C := "ChannelMachineModel") (T := F_Mo) (N := 45) hx hb hts i_Mo t_Mo t_Mo_ok n_Mo hown hK hP hD hS 0 rfl rfl 15 (by decide) (hts _ k_982) (fun _ h9 => h9) rfl hin rfl (by decide +kernel) rfl rfl (Nat.le_of_ble_eq_true rfl) d_Mo_init_81 (fun H locs hP hD hS => ?_)
  have hP : va_P (dC, dI) x_cl [(h0, .inr (6, [.ref q1, .ref q2, .ref q3, .ref q4, .int 0, .int (-1), .int 0, .int 0, .int 0, .int 0, .int 0, .ref q5, .ref q6, .ref q7, .ref q8, .ref q9, .null, .null, .int 0, .null, .null, .null, .null, .null, .null, .null, .null, .null, .null, .int 0, .int 0, .int 0, .int 0, .int 0, .long 0, .null, .null, .null, .null, .null, .null, .null, .int 0, .int 0, .int 0])), (q1, .inl (ar 0, 72, .inl (fun _ => 0))), (q2, .inl (ar 0, 1200, .inl (fun _ => 0))), (q3, .inl (ar 0, 1200, .inl (fun _ => 0))), (q4, .inl (ar 0, 6, .inl (fun _ => 0))), (q5, .inl (ar 0, 80, .inl (fun _ => 0))), (q6, .inl (ar 0, 80, .inl (fun _ => 0))), (q7, .inl (ar 0, 80, .inl (fun _ => 0))), (q8, .inl (ar 0, 320, .inl (fun _ => 0))), (q9, .inl (ar 0, 40, .inl (fun _ => 0)))] H := hP
  have hD : va_D A [(h0, .inr (6, [.ref q1, .ref q2, .ref q3, .ref q4, .int 0, .int (-1), .int 0, .int 0, .int 0, .int 0, .int 0, .ref q5, .ref q6, .ref q7, .ref q8, .ref q9, .null, .null, .int 0, .null, .null, .null, .null, .null, .null, .null, .null, .null, .null, .int 0, .int 0, .int 0, .int 0, .int 0, .long 0, .null, .null, .null, .null, .null, .null, .null, .int 0, .int 0, .int 0])), (q1, .inl (ar 0, 72, .inl (fun _ => 0))), (q2, .inl (ar 0, 1200, .inl (fun _ => 0))), (q3, .inl (ar 0, 1200, .inl (fun _ => 0))), (q4, .inl (ar 0, 6, .inl (fun _ => 0))), (q5, .inl (ar 0, 80, .inl (fun _ => 0))), (q6, .inl (ar 0, 80, .inl (fun _ => 0))), (q7, .inl (ar 0, 80, .inl (fun _ => 0))), (q8, .inl (ar 0, 320, .inl (fun _ => 0))), (q9, .inl (ar 0, 40, .inl (fun _ => 0)))] := hD
  refine lv_aload_n hx hb d_Mo_init_84 rfl (lv_at hl 0 rfl) ?_
  refine lv_bipush (v := 40) hx hb d_Mo_init_85 (by decide) ?_
  refine x_newa (D := (dC, dI)) (ar := ar) (atype := .int) hx hb (hts _ k_76) (ty := .int) rfl hK hP hD hS hA (N' := 40) (a0 := (40, .inl (fun _ => 0))) (fun _ => rfl) (by decide) (by decide) (by decide) (Nat.le_of_ble_eq_true rfl) (Nat.le_of_ble_eq_true rfl) 0 rfl (by decide) d_Mo_init_87 (fun q10 H hP hD hS => ?_)
  have hP : va_P (dC, dI) x_cl [(h0, .inr (6, [.ref q1, .ref q2, .ref q3, .ref q4, .int 0, .int (-1), .int 0, .int 0, .int 0, .int 0, .int 0, .ref q5, .ref q6, .ref q7, .ref q8, .ref q9, .null, .null, .int 0, .null, .null, .null, .null, .null, .null, .null, .null, .null, .null, .int 0, .int 0, .int 0, .int 0, .int 0, .long 0, .null, .null, .null, .null, .null, .null, .null, .int 0, .int 0, .int 0])), (q1, .inl (ar 0, 72, .inl (fun _ => 0))), (q2, .inl (ar 0, 1200, .inl (fun _ => 0))), (q3, .inl (ar 0, 1200, .inl (fun _ => 0))), (q4, .inl (ar 0, 6, .inl (fun _ => 0))), (q5, .inl (ar 0, 80, .inl (fun _ => 0))), (q6, .inl (ar 0, 80, .inl (fun _ => 0))), (q7, .inl (ar 0, 80, .inl (fun _ => 0))), (q8, .inl (ar 0, 320, .inl (fun _ => 0))), (q9, .inl (ar 0, 40, .inl (fun _ => 0))), (q10, .inl (ar 0, 40, .inl (fun _ => 0)))] H := hP
  have hD : va_D A [(h0, .inr (6, [.ref q1, .ref q2, .ref q3, .ref q4, .int 0, .int (-1), .int 0, .int 0, .int 0, .int 0, .int 0, .ref q5, .ref q6, .ref q7, .ref q8, .ref q9, .null, .null, .int 0, .null, .null, .null, .null, .null, .null, .null, .null, .null, .null, .int 0, .int 0, .int 0, .int 0, .int 0, .long 0, .null, .null, .null, .null, .null, .null, .null, .int 0, .int 0, .int 0])), (q1, .inl (ar 0, 72, .inl (fun _ => 0))), (q2, .inl (ar 0, 1200, .inl (fun _ => 0))), (q3, .inl (ar 0, 1200, .inl (fun _ => 0))), (q4, .inl (ar 0, 6, .inl (fun _ => 0))), (q5, .inl (ar 0, 80, .inl (fun _ => 0))), (q6, .inl (ar 0, 80, .inl (fun _ => 0))), (q7, .inl (ar 0, 80, .inl (fun _ => 0))), (q8, .inl (ar 0, 320, .inl (fun _ => 0))), (q9, .inl (ar 0, 40, .inl (fun _ => 0))), (q10, .inl (ar 0, 40, .inl (fun _ => 0)))] := hD
  refine W.widen (k := 10) (n := 3118) (Nat.le_of_ble_eq_true rfl) (Nat.le_of_ble_eq_true rfl) ?_
  refine va_putF (D := (dC, dI)) (ci := 6) (v := .ref q10) (ty := (.array .int)) (C := "ChannelMachineModel") (T := F_Mo) (N := 45) hx hb hts i_Mo t_Mo t_Mo_ok n_Mo hown hK hP hD hS 0 rfl rfl 16 (by decide) (hts _ k_983) (fun _ h9 => h9) rfl hin rfl (by decide +kernel) rfl rfl (Nat.le_of_ble_eq_true rfl) d_Mo_init_89 (fun H locs hP hD hS => ?_)
  have hP : va_P (dC, dI) x_cl [(h0, .inr (6, [.ref q1, .ref q2, .ref q3, .ref q4, .int 0, .int (-1), .int 0, .int 0, .int 0, .int 0, .int 0, .ref q5, .ref q6, .ref q7, .ref q8, .ref q9, .ref q10, .null, .int 0, .null, .null, .null, .null, .null, .null, .null, .null, .null, .null, .int 0, .int 0, .int 0, .int 0, .int 0, .long 0, .null, .null, .null, .null, .null, .null, .null, .int 0, .int 0, .int 0])), (q1, .inl (ar 0, 72, .inl (fun _ => 0))), (q2, .inl (ar 0, 1200, .inl (fun _ => 0))), (q3, .inl (ar 0, 1200, .inl (fun _ => 0))), (q4, .inl (ar 0, 6, .inl (fun _ => 0))), (q5, .inl (ar 0, 80, .inl (fun _ => 0))), (q6, .inl (ar 0, 80, .inl (fun _ => 0))), (q7, .inl (ar 0, 80, .inl (fun _ => 0))), (q8, .inl (ar 0, 320, .inl (fun _ => 0))), (q9, .inl (ar 0, 40, .inl (fun _ => 0))), (q10, .inl (ar 0, 40, .inl (fun _ => 0)))] H := hP
  have hD : va_D A [(h0, .inr (6, [.ref q1, .ref q2, .ref q3, .ref q4, .int 0, .int (-1), .int 0, .int 0, .int 0, .int 0, .int 0, .ref q5, .ref q6, .ref q7, .ref q8, .ref q9, .ref q10, .null, .int 0, .null, .null, .null, .null, .null, .null, .null, .null, .null, .null, .int 0, .int 0, .int 0, .int 0, .int 0, .long 0, .null, .null, .null, .null, .null, .null, .null, .int 0, .int 0, .int 0])), (q1, .inl (ar 0, 72, .inl (fun _ => 0))), (q2, .inl (ar 0, 1200, .inl (fun _ => 0))), (q3, .inl (ar 0, 1200, .inl (fun _ => 0))), (q4, .inl (ar 0, 6, .inl (fun _ => 0))), (q5, .inl (ar 0, 80, .inl (fun _ => 0))), (q6, .inl (ar 0, 80, .inl (fun _ => 0))), (q7, .inl (ar 0, 80, .inl (fun _ => 0))), (q8, .inl (ar 0, 320, .inl (fun _ => 0))), (q9, .inl (ar 0, 40, .inl (fun _ => 0))), (q10, .inl (ar 0, 40, .inl (fun _ => 0)))] := hD
  refine lv_aload_n hx hb d_Mo_init_92 rfl (lv_at hl 0 rfl) ?_
  refine lv_bipush (v := 8) hx hb d_Mo_init_93 (by decide) ?_
  refine x_newa (D := (dC, dI)) (ar := ar) (atype := .int) hx hb (hts _ k_76) (ty := .int) rfl hK hP hD hS hA (N' := 8) (a0 := (8, .inl (fun _ => 0))) (fun _ => rfl) (by decide) (by decide) (by decide) (Nat.le_of_ble_eq_true rfl) (Nat.le_of_ble_eq_true rfl) 0 rfl (by decide) d_Mo_init_95 (fun q11 H hP hD hS => ?_)
  have hP : va_P (dC, dI) x_cl [(h0, .inr (6, [.ref q1, .ref q2, .ref q3, .ref q4, .int 0, .int (-1), .int 0, .int 0, .int 0, .int 0, .int 0, .ref q5, .ref q6, .ref q7, .ref q8, .ref q9, .ref q10, .null, .int 0, .null, .null, .null, .null, .null, .null, .null, .null, .null, .null, .int 0, .int 0, .int 0, .int 0, .int 0, .long 0, .null, .null, .null, .null, .null, .null, .null, .int 0, .int 0, .int 0])), (q1, .inl (ar 0, 72, .inl (fun _ => 0))), (q2, .inl (ar 0, 1200, .inl (fun _ => 0))), (q3, .inl (ar 0, 1200, .inl (fun _ => 0))), (q4, .inl (ar 0, 6, .inl (fun _ => 0))), (q5, .inl (ar 0, 80, .inl (fun _ => 0))), (q6, .inl (ar 0, 80, .inl (fun _ => 0))), (q7, .inl (ar 0, 80, .inl (fun _ => 0))), (q8, .inl (ar 0, 320, .inl (fun _ => 0))), (q9, .inl (ar 0, 40, .inl (fun _ => 0))), (q10, .inl (ar 0, 40, .inl (fun _ => 0))), (q11, .inl (ar 0, 8, .inl (fun _ => 0)))] H := hP
  have hD : va_D A [(h0, .inr (6, [.ref q1, .ref q2, .ref q3, .ref q4, .int 0, .int (-1), .int 0, .int 0, .int 0, .int 0, .int 0, .ref q5, .ref q6, .ref q7, .ref q8, .ref q9, .ref q10, .null, .int 0, .null, .null, .null, .null, .null, .null, .null, .null, .null, .null, .int 0, .int 0, .int 0, .int 0, .int 0, .long 0, .null, .null, .null, .null, .null, .null, .null, .int 0, .int 0, .int 0])), (q1, .inl (ar 0, 72, .inl (fun _ => 0))), (q2, .inl (ar 0, 1200, .inl (fun _ => 0))), (q3, .inl (ar 0, 1200, .inl (fun _ => 0))), (q4, .inl (ar 0, 6, .inl (fun _ => 0))), (q5, .inl (ar 0, 80, .inl (fun _ => 0))), (q6, .inl (ar 0, 80, .inl (fun _ => 0))), (q7, .inl (ar 0, 80, .inl (fun _ => 0))), (q8, .inl (ar 0, 320, .inl (fun _ => 0))), (q9, .inl (ar 0, 40, .inl (fun _ => 0))), (q10, .inl (ar 0, 40, .inl (fun _ => 0))), (q11, .inl (ar 0, 8, .inl (fun _ => 0)))] := hD
  refine W.widen (k := 11) (n := 3126) (Nat.le_of_ble_eq_true rfl) (Nat.le_of_ble_eq_true rfl) ?_
  refine va_putF (D := (dC, dI)) (ci := 6) (v := .ref q11) (ty := (.array .int)) (C := "ChannelMachineModel") (T := F_Mo) (N := 45) hx hb hts i_Mo t_Mo t_Mo_ok n_Mo hown hK hP hD hS 0 rfl rfl 17 (by decide) (hts _ k_984) (fun _ h9 => h9) rfl hin rfl (by decide +kernel) rfl rfl (Nat.le_of_ble_eq_true rfl) d_Mo_init_97 (fun H locs hP hD hS => ?_)
  have hP : va_P (dC, dI) x_cl [(h0, .inr (6, [.ref q1, .ref q2, .ref q3, .ref q4, .int 0, .int (-1), .int 0, .int 0, .int 0, .int 0, .int 0, .ref q5, .ref q6, .ref q7, .ref q8, .ref q9, .ref q10, .ref q11, .int 0, .null, .null, .null, .null, .null, .null, .null, .null, .null, .null, .int 0, .int 0, .int 0, .int 0, .int 0, .long 0, .null, .null, .null, .null, .null, .null, .null, .int 0, .int 0, .int 0])), (q1, .inl (ar 0, 72, .inl (fun _ => 0))), (q2, .inl (ar 0, 1200, .inl (fun _ => 0))), (q3, .inl (ar 0, 1200, .inl (fun _ => 0))), (q4, .inl (ar 0, 6, .inl (fun _ => 0))), (q5, .inl (ar 0, 80, .inl (fun _ => 0))), (q6, .inl (ar 0, 80, .inl (fun _ => 0))), (q7, .inl (ar 0, 80, .inl (fun _ => 0))), (q8, .inl (ar 0, 320, .inl (fun _ => 0))), (q9, .inl (ar 0, 40, .inl (fun _ => 0))), (q10, .inl (ar 0, 40, .inl (fun _ => 0))), (q11, .inl (ar 0, 8, .inl (fun _ => 0)))] H := hP
  have hD : va_D A [(h0, .inr (6, [.ref q1, .ref q2, .ref q3, .ref q4, .int 0, .int (-1), .int 0, .int 0, .int 0, .int 0, .int 0, .ref q5, .ref q6, .ref q7, .ref q8, .ref q9, .ref q10, .ref q11, .int 0, .null, .null, .null, .null, .null, .null, .null, .null, .null, .null, .int 0, .int 0, .int 0, .int 0, .int 0, .long 0, .null, .null, .null, .null, .null, .null, .null, .int 0, .int 0, .int 0])), (q1, .inl (ar 0, 72, .inl (fun _ => 0))), (q2, .inl (ar 0, 1200, .inl (fun _ => 0))), (q3, .inl (ar 0, 1200, .inl (fun _ => 0))), (q4, .inl (ar 0, 6, .inl (fun _ => 0))), (q5, .inl (ar 0, 80, .inl (fun _ => 0))), (q6, .inl (ar 0, 80, .inl (fun _ => 0))), (q7, .inl (ar 0, 80, .inl (fun _ => 0))), (q8, .inl (ar 0, 320, .inl (fun _ => 0))), (q9, .inl (ar 0, 40, .inl (fun _ => 0))), (q10, .inl (ar 0, 40, .inl (fun _ => 0))), (q11, .inl (ar 0, 8, .inl (fun _ => 0)))] := hD
  refine lv_aload_n hx hb d_Mo_init_100 rfl (lv_at hl 0 rfl) ?_
  refine lv_bipush (v := 8) hx hb d_Mo_init_101 (by decide) ?_
  refine x_newa (D := (dC, dI)) (ar := ar) (atype := .boolean) hx hb (hts _ k_1103) (ty := .boolean) rfl hK hP hD hS hA (N' := 8) (a0 := (8, .inl (fun _ => 0))) (fun _ => rfl) (by decide) (by decide) (by decide) (Nat.le_of_ble_eq_true rfl) (Nat.le_of_ble_eq_true rfl) 3 rfl (by decide) d_Mo_init_103 (fun q12 H hP hD hS => ?_)
  have hP : va_P (dC, dI) x_cl [(h0, .inr (6, [.ref q1, .ref q2, .ref q3, .ref q4, .int 0, .int (-1), .int 0, .int 0, .int 0, .int 0, .int 0, .ref q5, .ref q6, .ref q7, .ref q8, .ref q9, .ref q10, .ref q11, .int 0, .null, .null, .null, .null, .null, .null, .null, .null, .null, .null, .int 0, .int 0, .int 0, .int 0, .int 0, .long 0, .null, .null, .null, .null, .null, .null, .null, .int 0, .int 0, .int 0])), (q1, .inl (ar 0, 72, .inl (fun _ => 0))), (q2, .inl (ar 0, 1200, .inl (fun _ => 0))), (q3, .inl (ar 0, 1200, .inl (fun _ => 0))), (q4, .inl (ar 0, 6, .inl (fun _ => 0))), (q5, .inl (ar 0, 80, .inl (fun _ => 0))), (q6, .inl (ar 0, 80, .inl (fun _ => 0))), (q7, .inl (ar 0, 80, .inl (fun _ => 0))), (q8, .inl (ar 0, 320, .inl (fun _ => 0))), (q9, .inl (ar 0, 40, .inl (fun _ => 0))), (q10, .inl (ar 0, 40, .inl (fun _ => 0))), (q11, .inl (ar 0, 8, .inl (fun _ => 0))), (q12, .inl (ar 3, 8, .inl (fun _ => 0)))] H := hP
  have hD : va_D A [(h0, .inr (6, [.ref q1, .ref q2, .ref q3, .ref q4, .int 0, .int (-1), .int 0, .int 0, .int 0, .int 0, .int 0, .ref q5, .ref q6, .ref q7, .ref q8, .ref q9, .ref q10, .ref q11, .int 0, .null, .null, .null, .null, .null, .null, .null, .null, .null, .null, .int 0, .int 0, .int 0, .int 0, .int 0, .long 0, .null, .null, .null, .null, .null, .null, .null, .int 0, .int 0, .int 0])), (q1, .inl (ar 0, 72, .inl (fun _ => 0))), (q2, .inl (ar 0, 1200, .inl (fun _ => 0))), (q3, .inl (ar 0, 1200, .inl (fun _ => 0))), (q4, .inl (ar 0, 6, .inl (fun _ => 0))), (q5, .inl (ar 0, 80, .inl (fun _ => 0))), (q6, .inl (ar 0, 80, .inl (fun _ => 0))), (q7, .inl (ar 0, 80, .inl (fun _ => 0))), (q8, .inl (ar 0, 320, .inl (fun _ => 0))), (q9, .inl (ar 0, 40, .inl (fun _ => 0))), (q10, .inl (ar 0, 40, .inl (fun _ => 0))), (q11, .inl (ar 0, 8, .inl (fun _ => 0))), (q12, .inl (ar 3, 8, .inl (fun _ => 0)))] := hD
  refine W.widen (k := 12) (n := 3134) (Nat.le_of_ble_eq_true rfl) (Nat.le_of_ble_eq_true rfl) ?_
  refine va_putF (D := (dC, dI)) (ci := 6) (v := .ref q12) (ty := (.array .boolean)) (C := "ChannelMachineModel") (T := F_Mo) (N := 45) hx hb hts i_Mo t_Mo t_Mo_ok n_Mo hown hK hP hD hS 0 rfl rfl 19 (by decide) (hts _ k_986) (fun _ h9 => h9) rfl hin rfl (by decide +kernel) rfl rfl (Nat.le_of_ble_eq_true rfl) d_Mo_init_105 (fun H locs hP hD hS => ?_)
  have hP : va_P (dC, dI) x_cl [(h0, .inr (6, [.ref q1, .ref q2, .ref q3, .ref q4, .int 0, .int (-1), .int 0, .int 0, .int 0, .int 0, .int 0, .ref q5, .ref q6, .ref q7, .ref q8, .ref q9, .ref q10, .ref q11, .int 0, .ref q12, .null, .null, .null, .null, .null, .null, .null, .null, .null, .int 0, .int 0, .int 0, .int 0, .int 0, .long 0, .null, .null, .null, .null, .null, .null, .null, .int 0, .int 0, .int 0])), (q1, .inl (ar 0, 72, .inl (fun _ => 0))), (q2, .inl (ar 0, 1200, .inl (fun _ => 0))), (q3, .inl (ar 0, 1200, .inl (fun _ => 0))), (q4, .inl (ar 0, 6, .inl (fun _ => 0))), (q5, .inl (ar 0, 80, .inl (fun _ => 0))), (q6, .inl (ar 0, 80, .inl (fun _ => 0))), (q7, .inl (ar 0, 80, .inl (fun _ => 0))), (q8, .inl (ar 0, 320, .inl (fun _ => 0))), (q9, .inl (ar 0, 40, .inl (fun _ => 0))), (q10, .inl (ar 0, 40, .inl (fun _ => 0))), (q11, .inl (ar 0, 8, .inl (fun _ => 0))), (q12, .inl (ar 3, 8, .inl (fun _ => 0)))] H := hP
  have hD : va_D A [(h0, .inr (6, [.ref q1, .ref q2, .ref q3, .ref q4, .int 0, .int (-1), .int 0, .int 0, .int 0, .int 0, .int 0, .ref q5, .ref q6, .ref q7, .ref q8, .ref q9, .ref q10, .ref q11, .int 0, .ref q12, .null, .null, .null, .null, .null, .null, .null, .null, .null, .int 0, .int 0, .int 0, .int 0, .int 0, .long 0, .null, .null, .null, .null, .null, .null, .null, .int 0, .int 0, .int 0])), (q1, .inl (ar 0, 72, .inl (fun _ => 0))), (q2, .inl (ar 0, 1200, .inl (fun _ => 0))), (q3, .inl (ar 0, 1200, .inl (fun _ => 0))), (q4, .inl (ar 0, 6, .inl (fun _ => 0))), (q5, .inl (ar 0, 80, .inl (fun _ => 0))), (q6, .inl (ar 0, 80, .inl (fun _ => 0))), (q7, .inl (ar 0, 80, .inl (fun _ => 0))), (q8, .inl (ar 0, 320, .inl (fun _ => 0))), (q9, .inl (ar 0, 40, .inl (fun _ => 0))), (q10, .inl (ar 0, 40, .inl (fun _ => 0))), (q11, .inl (ar 0, 8, .inl (fun _ => 0))), (q12, .inl (ar 3, 8, .inl (fun _ => 0)))] := hD
  refine lv_aload_n hx hb d_Mo_init_108 rfl (lv_at hl 0 rfl) ?_
  refine lv_bipush (v := 90) hx hb d_Mo_init_109 (by decide) ?_
  refine x_newa (D := (dC, dI)) (ar := ar) (atype := .int) hx hb (hts _ k_76) (ty := .int) rfl hK hP hD hS hA (N' := 90) (a0 := (90, .inl (fun _ => 0))) (fun _ => rfl) (by decide) (by decide) (by decide) (Nat.le_of_ble_eq_true rfl) (Nat.le_of_ble_eq_true rfl) 0 rfl (by decide) d_Mo_init_111 (fun q13 H hP hD hS => ?_)
  have hP : va_P (dC, dI) x_cl [(h0, .inr (6, [.ref q1, .ref q2, .ref q3, .ref q4, .int 0, .int (-1), .int 0, .int 0, .int 0, .int 0, .int 0, .ref q5, .ref q6, .ref q7, .ref q8, .ref q9, .ref q10, .ref q11, .int 0, .ref q12, .null, .null, .null, .null, .null, .null, .null, .null, .null, .int 0, .int 0, .int 0, .int 0, .int 0, .long 0, .null, .null, .null, .null, .null, .null, .null, .int 0, .int 0, .int 0])), (q1, .inl (ar 0, 72, .inl (fun _ => 0))), (q2, .inl (ar 0, 1200, .inl (fun _ => 0))), (q3, .inl (ar 0, 1200, .inl (fun _ => 0))), (q4, .inl (ar 0, 6, .inl (fun _ => 0))), (q5, .inl (ar 0, 80, .inl (fun _ => 0))), (q6, .inl (ar 0, 80, .inl (fun _ => 0))), (q7, .inl (ar 0, 80, .inl (fun _ => 0))), (q8, .inl (ar 0, 320, .inl (fun _ => 0))), (q9, .inl (ar 0, 40, .inl (fun _ => 0))), (q10, .inl (ar 0, 40, .inl (fun _ => 0))), (q11, .inl (ar 0, 8, .inl (fun _ => 0))), (q12, .inl (ar 3, 8, .inl (fun _ => 0))), (q13, .inl (ar 0, 90, .inl (fun _ => 0)))] H := hP
  have hD : va_D A [(h0, .inr (6, [.ref q1, .ref q2, .ref q3, .ref q4, .int 0, .int (-1), .int 0, .int 0, .int 0, .int 0, .int 0, .ref q5, .ref q6, .ref q7, .ref q8, .ref q9, .ref q10, .ref q11, .int 0, .ref q12, .null, .null, .null, .null, .null, .null, .null, .null, .null, .int 0, .int 0, .int 0, .int 0, .int 0, .long 0, .null, .null, .null, .null, .null, .null, .null, .int 0, .int 0, .int 0])), (q1, .inl (ar 0, 72, .inl (fun _ => 0))), (q2, .inl (ar 0, 1200, .inl (fun _ => 0))), (q3, .inl (ar 0, 1200, .inl (fun _ => 0))), (q4, .inl (ar 0, 6, .inl (fun _ => 0))), (q5, .inl (ar 0, 80, .inl (fun _ => 0))), (q6, .inl (ar 0, 80, .inl (fun _ => 0))), (q7, .inl (ar 0, 80, .inl (fun _ => 0))), (q8, .inl (ar 0, 320, .inl (fun _ => 0))), (q9, .inl (ar 0, 40, .inl (fun _ => 0))), (q10, .inl (ar 0, 40, .inl (fun _ => 0))), (q11, .inl (ar 0, 8, .inl (fun _ => 0))), (q12, .inl (ar 3, 8, .inl (fun _ => 0))), (q13, .inl (ar 0, 90, .inl (fun _ => 0)))] := hD
  refine W.widen (k := 13) (n := 3224) (Nat.le_of_ble_eq_true rfl) (Nat.le_of_ble_eq_true rfl) ?_
  refine va_putF (D := (dC, dI)) (ci := 6) (v := .ref q13) (ty := (.array .int)) (C := "ChannelMachineModel") (T := F_Mo) (N := 45) hx hb hts i_Mo t_Mo t_Mo_ok n_Mo hown hK hP hD hS 0 rfl rfl 20 (by decide) (hts _ k_987) (fun _ h9 => h9) rfl hin rfl (by decide +kernel) rfl rfl (Nat.le_of_ble_eq_true rfl) d_Mo_init_113 (fun H locs hP hD hS => ?_)
  have hP : va_P (dC, dI) x_cl [(h0, .inr (6, [.ref q1, .ref q2, .ref q3, .ref q4, .int 0, .int (-1), .int 0, .int 0, .int 0, .int 0, .int 0, .ref q5, .ref q6, .ref q7, .ref q8, .ref q9, .ref q10, .ref q11, .int 0, .ref q12, .ref q13, .null, .null, .null, .null, .null, .null, .null, .null, .int 0, .int 0, .int 0, .int 0, .int 0, .long 0, .null, .null, .null, .null, .null, .null, .null, .int 0, .int 0, .int 0])), (q1, .inl (ar 0, 72, .inl (fun _ => 0))), (q2, .inl (ar 0, 1200, .inl (fun _ => 0))), (q3, .inl (ar 0, 1200, .inl (fun _ => 0))), (q4, .inl (ar 0, 6, .inl (fun _ => 0))), (q5, .inl (ar 0, 80, .inl (fun _ => 0))), (q6, .inl (ar 0, 80, .inl (fun _ => 0))), (q7, .inl (ar 0, 80, .inl (fun _ => 0))), (q8, .inl (ar 0, 320, .inl (fun _ => 0))), (q9, .inl (ar 0, 40, .inl (fun _ => 0))), (q10, .inl (ar 0, 40, .inl (fun _ => 0))), (q11, .inl (ar 0, 8, .inl (fun _ => 0))), (q12, .inl (ar 3, 8, .inl (fun _ => 0))), (q13, .inl (ar 0, 90, .inl (fun _ => 0)))] H := hP
  have hD : va_D A [(h0, .inr (6, [.ref q1, .ref q2, .ref q3, .ref q4, .int 0, .int (-1), .int 0, .int 0, .int 0, .int 0, .int 0, .ref q5, .ref q6, .ref q7, .ref q8, .ref q9, .ref q10, .ref q11, .int 0, .ref q12, .ref q13, .null, .null, .null, .null, .null, .null, .null, .null, .int 0, .int 0, .int 0, .int 0, .int 0, .long 0, .null, .null, .null, .null, .null, .null, .null, .int 0, .int 0, .int 0])), (q1, .inl (ar 0, 72, .inl (fun _ => 0))), (q2, .inl (ar 0, 1200, .inl (fun _ => 0))), (q3, .inl (ar 0, 1200, .inl (fun _ => 0))), (q4, .inl (ar 0, 6, .inl (fun _ => 0))), (q5, .inl (ar 0, 80, .inl (fun _ => 0))), (q6, .inl (ar 0, 80, .inl (fun _ => 0))), (q7, .inl (ar 0, 80, .inl (fun _ => 0))), (q8, .inl (ar 0, 320, .inl (fun _ => 0))), (q9, .inl (ar 0, 40, .inl (fun _ => 0))), (q10, .inl (ar 0, 40, .inl (fun _ => 0))), (q11, .inl (ar 0, 8, .inl (fun _ => 0))), (q12, .inl (ar 3, 8, .inl (fun _ => 0))), (q13, .inl (ar 0, 90, .inl (fun _ => 0)))] := hD
  refine lv_aload_n hx hb d_Mo_init_116 rfl (lv_at hl 0 rfl) ?_
  refine lv_bipush (v := 90) hx hb d_Mo_init_117 (by decide) ?_
  refine x_newa (D := (dC, dI)) (ar := ar) (atype := .int) hx hb (hts _ k_76) (ty := .int) rfl hK hP hD hS hA (N' := 90) (a0 := (90, .inl (fun _ => 0))) (fun _ => rfl) (by decide) (by decide) (by decide) (Nat.le_of_ble_eq_true rfl) (Nat.le_of_ble_eq_true rfl) 0 rfl (by decide) d_Mo_init_119 (fun q14 H hP hD hS => ?_)
  have hP : va_P (dC, dI) x_cl [(h0, .inr (6, [.ref q1, .ref q2, .ref q3, .ref q4, .int 0, .int (-1), .int 0, .int 0, .int 0, .int 0, .int 0, .ref q5, .ref q6, .ref q7, .ref q8, .ref q9, .ref q10, .ref q11, .int 0, .ref q12, .ref q13, .null, .null, .null, .null, .null, .null, .null, .null, .int 0, .int 0, .int 0, .int 0, .int 0, .long 0, .null, .null, .null, .null, .null, .null, .null, .int 0, .int 0, .int 0])), (q1, .inl (ar 0, 72, .inl (fun _ => 0))), (q2, .inl (ar 0, 1200, .inl (fun _ => 0))), (q3, .inl (ar 0, 1200, .inl (fun _ => 0))), (q4, .inl (ar 0, 6, .inl (fun _ => 0))), (q5, .inl (ar 0, 80, .inl (fun _ => 0))), (q6, .inl (ar 0, 80, .inl (fun _ => 0))), (q7, .inl (ar 0, 80, .inl (fun _ => 0))), (q8, .inl (ar 0, 320, .inl (fun _ => 0))), (q9, .inl (ar 0, 40, .inl (fun _ => 0))), (q10, .inl (ar 0, 40, .inl (fun _ => 0))), (q11, .inl (ar 0, 8, .inl (fun _ => 0))), (q12, .inl (ar 3, 8, .inl (fun _ => 0))), (q13, .inl (ar 0, 90, .inl (fun _ => 0))), (q14, .inl (ar 0, 90, .inl (fun _ => 0)))] H := hP
  have hD : va_D A [(h0, .inr (6, [.ref q1, .ref q2, .ref q3, .ref q4, .int 0, .int (-1), .int 0, .int 0, .int 0, .int 0, .int 0, .ref q5, .ref q6, .ref q7, .ref q8, .ref q9, .ref q10, .ref q11, .int 0, .ref q12, .ref q13, .null, .null, .null, .null, .null, .null, .null, .null, .int 0, .int 0, .int 0, .int 0, .int 0, .long 0, .null, .null, .null, .null, .null, .null, .null, .int 0, .int 0, .int 0])), (q1, .inl (ar 0, 72, .inl (fun _ => 0))), (q2, .inl (ar 0, 1200, .inl (fun _ => 0))), (q3, .inl (ar 0, 1200, .inl (fun _ => 0))), (q4, .inl (ar 0, 6, .inl (fun _ => 0))), (q5, .inl (ar 0, 80, .inl (fun _ => 0))), (q6, .inl (ar 0, 80, .inl (fun _ => 0))), (q7, .inl (ar 0, 80, .inl (fun _ => 0))), (q8, .inl (ar 0, 320, .inl (fun _ => 0))), (q9, .inl (ar 0, 40, .inl (fun _ => 0))), (q10, .inl (ar 0, 40, .inl (fun _ => 0))), (q11, .inl (ar 0, 8, .inl (fun _ => 0))), (q12, .inl (ar 3, 8, .inl (fun _ => 0))), (q13, .inl (ar 0, 90, .inl (fun _ => 0))), (q14, .inl (ar 0, 90, .inl (fun _ => 0)))] := hD
  refine W.widen (k := 14) (n := 3314) (Nat.le_of_ble_eq_true rfl) (Nat.le_of_ble_eq_true rfl) ?_
  refine va_putF (D := (dC, dI)) (ci := 6) (v := .ref q14) (ty := (.array .int)) (C := "ChannelMachineModel") (T := F_Mo) (N := 45) hx hb hts i_Mo t_Mo t_Mo_ok n_Mo hown hK hP hD hS 0 rfl rfl 21 (by decide) (hts _ k_988) (fun _ h9 => h9) rfl hin rfl (by decide +kernel) rfl rfl (Nat.le_of_ble_eq_true rfl) d_Mo_init_121 (fun H locs hP hD hS => ?_)
  have hP : va_P (dC, dI) x_cl [(h0, .inr (6, [.ref q1, .ref q2, .ref q3, .ref q4, .int 0, .int (-1), .int 0, .int 0, .int 0, .int 0, .int 0, .ref q5, .ref q6, .ref q7, .ref q8, .ref q9, .ref q10, .ref q11, .int 0, .ref q12, .ref q13, .ref q14, .null, .null, .null, .null, .null, .null, .null, .int 0, .int 0, .int 0, .int 0, .int 0, .long 0, .null, .null, .null, .null, .null, .null, .null, .int 0, .int 0, .int 0])), (q1, .inl (ar 0, 72, .inl (fun _ => 0))), (q2, .inl (ar 0, 1200, .inl (fun _ => 0))), (q3, .inl (ar 0, 1200, .inl (fun _ => 0))), (q4, .inl (ar 0, 6, .inl (fun _ => 0))), (q5, .inl (ar 0, 80, .inl (fun _ => 0))), (q6, .inl (ar 0, 80, .inl (fun _ => 0))), (q7, .inl (ar 0, 80, .inl (fun _ => 0))), (q8, .inl (ar 0, 320, .inl (fun _ => 0))), (q9, .inl (ar 0, 40, .inl (fun _ => 0))), (q10, .inl (ar 0, 40, .inl (fun _ => 0))), (q11, .inl (ar 0, 8, .inl (fun _ => 0))), (q12, .inl (ar 3, 8, .inl (fun _ => 0))), (q13, .inl (ar 0, 90, .inl (fun _ => 0))), (q14, .inl (ar 0, 90, .inl (fun _ => 0)))] H := hP
  have hD : va_D A [(h0, .inr (6, [.ref q1, .ref q2, .ref q3, .ref q4, .int 0, .int (-1), .int 0, .int 0, .int 0, .int 0, .int 0, .ref q5, .ref q6, .ref q7, .ref q8, .ref q9, .ref q10, .ref q11, .int 0, .ref q12, .ref q13, .ref q14, .null, .null, .null, .null, .null, .null, .null, .int 0, .int 0, .int 0, .int 0, .int 0, .long 0, .null, .null, .null, .null, .null, .null, .null, .int 0, .int 0, .int 0])), (q1, .inl (ar 0, 72, .inl (fun _ => 0))), (q2, .inl (ar 0, 1200, .inl (fun _ => 0))), (q3, .inl (ar 0, 1200, .inl (fun _ => 0))), (q4, .inl (ar 0, 6, .inl (fun _ => 0))), (q5, .inl (ar 0, 80, .inl (fun _ => 0))), (q6, .inl (ar 0, 80, .inl (fun _ => 0))), (q7, .inl (ar 0, 80, .inl (fun _ => 0))), (q8, .inl (ar 0, 320, .inl (fun _ => 0))), (q9, .inl (ar 0, 40, .inl (fun _ => 0))), (q10, .inl (ar 0, 40, .inl (fun _ => 0))), (q11, .inl (ar 0, 8, .inl (fun _ => 0))), (q12, .inl (ar 3, 8, .inl (fun _ => 0))), (q13, .inl (ar 0, 90, .inl (fun _ => 0))), (q14, .inl (ar 0, 90, .inl (fun _ => 0)))] := hD
  refine lv_aload_n hx hb d_Mo_init_124 rfl (lv_at hl 0 rfl) ?_
  refine lv_bipush (v := 90) hx hb d_Mo_init_125 (by decide) ?_
  refine x_newa (D := (dC, dI)) (ar := ar) (atype := .int) hx hb (hts _ k_76) (ty := .int) rfl hK hP hD hS hA (N' := 90) (a0 := (90, .inl (fun _ => 0))) (fun _ => rfl) (by decide) (by decide) (by decide) (Nat.le_of_ble_eq_true rfl) (Nat.le_of_ble_eq_true rfl) 0 rfl (by decide) d_Mo_init_127 (fun q15 H hP hD hS => ?_)
  have hP : va_P (dC, dI) x_cl [(h0, .inr (6, [.ref q1, .ref q2, .ref q3, .ref q4, .int 0, .int (-1), .int 0, .int 0, .int 0, .int 0, .int 0, .ref q5, .ref q6, .ref q7, .ref q8, .ref q9, .ref q10, .ref q11, .int 0, .ref q12, .ref q13, .ref q14, .null, .null, .null, .null, .null, .null, .null, .int 0, .int 0, .int 0, .int 0, .int 0, .long 0, .null, .null, .null, .null, .null, .null, .null, .int 0, .int 0, .int 0])), (q1, .inl (ar 0, 72, .inl (fun _ => 0))), (q2, .inl (ar 0, 1200, .inl (fun _ => 0))), (q3, .inl (ar 0, 1200, .inl (fun _ => 0))), (q4, .inl (ar 0, 6, .inl (fun _ => 0))), (q5, .inl (ar 0, 80, .inl (fun _ => 0))), (q6, .inl (ar 0, 80, .inl (fun _ => 0))), (q7, .inl (ar 0, 80, .inl (fun _ => 0))), (q8, .inl (ar 0, 320, .inl (fun _ => 0))), (q9, .inl (ar 0, 40, .inl (fun _ => 0))), (q10, .inl (ar 0, 40, .inl (fun _ => 0))), (q11, .inl (ar 0, 8, .inl (fun _ => 0))), (q12, .inl (ar 3, 8, .inl (fun _ => 0))), (q13, .inl (ar 0, 90, .inl (fun _ => 0))), (q14, .inl (ar 0, 90, .inl (fun _ => 0))), (q15, .inl (ar 0, 90, .inl (fun _ => 0)))] H := hP
  have hD : va_D A [(h0, .inr (6, [.ref q1, .ref q2, .ref q3, .ref q4, .int 0, .int (-1), .int 0, .int 0, .int 0, .int 0, .int 0, .ref q5, .ref q6, .ref q7, .ref q8, .ref q9, .ref q10, .ref q11, .int 0, .ref q12, .ref q13, .ref q14, .null, .null, .null, .null, .null, .null, .null, .int 0, .int 0, .int 0, .int 0, .int 0, .long 0, .null, .null, .null, .null, .null, .null, .null, .int 0, .int 0, .int 0])), (q1, .inl (ar 0, 72, .inl (fun _ => 0))), (q2, .inl (ar 0, 1200, .inl (fun _ => 0))), (q3, .inl (ar 0, 1200, .inl (fun _ => 0))), (q4, .inl (ar 0, 6, .inl (fun _ => 0))), (q5, .inl (ar 0, 80, .inl (fun _ => 0))), (q6, .inl (ar 0, 80, .inl (fun _ => 0))), (q7, .inl (ar 0, 80, .inl (fun _ => 0))), (q8, .inl (ar 0, 320, .inl (fun _ => 0))), (q9, .inl (ar 0, 40, .inl (fun _ => 0))), (q10, .inl (ar 0, 40, .inl (fun _ => 0))), (q11, .inl (ar 0, 8, .inl (fun _ => 0))), (q12, .inl (ar 3, 8, .inl (fun _ => 0))), (q13, .inl (ar 0, 90, .inl (fun _ => 0))), (q14, .inl (ar 0, 90, .inl (fun _ => 0))), (q15, .inl (ar 0, 90, .inl (fun _ => 0)))] := hD
  refine W.widen (k := 15) (n := 3404) (Nat.le_of_ble_eq_true rfl) (Nat.le_of_ble_eq_true rfl) ?_
  refine va_putF (D := (dC, dI)) (ci := 6) (v := .ref q15) (ty := (.array .int)) (C := "ChannelMachineModel") (T := F_Mo) (N := 45) hx hb hts i_Mo t_Mo t_Mo_ok n_Mo hown hK hP hD hS 0 rfl rfl 22 (by decide) (hts _ k_989) (fun _ h9 => h9) rfl hin rfl (by decide +kernel) rfl rfl (Nat.le_of_ble_eq_true rfl) d_Mo_init_129 (fun H locs hP hD hS => ?_)
  have hP : va_P (dC, dI) x_cl [(h0, .inr (6, [.ref q1, .ref q2, .ref q3, .ref q4, .int 0, .int (-1), .int 0, .int 0, .int 0, .int 0, .int 0, .ref q5, .ref q6, .ref q7, .ref q8, .ref q9, .ref q10, .ref q11, .int 0, .ref q12, .ref q13, .ref q14, .ref q15, .null, .null, .null, .null, .null, .null, .int 0, .int 0, .int 0, .int 0, .int 0, .long 0, .null, .null, .null, .null, .null, .null, .null, .int 0, .int 0, .int 0])), (q1, .inl (ar 0, 72, .inl (fun _ => 0))), (q2, .inl (ar 0, 1200, .inl (fun _ => 0))), (q3, .inl (ar 0, 1200, .inl (fun _ => 0))), (q4, .inl (ar 0, 6, .inl (fun _ => 0))), (q5, .inl (ar 0, 80, .inl (fun _ => 0))), (q6, .inl (ar 0, 80, .inl (fun _ => 0))), (q7, .inl (ar 0, 80, .inl (fun _ => 0))), (q8, .inl (ar 0, 320, .inl (fun _ => 0))), (q9, .inl (ar 0, 40, .inl (fun _ => 0))), (q10, .inl (ar 0, 40, .inl (fun _ => 0))), (q11, .inl (ar 0, 8, .inl (fun _ => 0))), (q12, .inl (ar 3, 8, .inl (fun _ => 0))), (q13, .inl (ar 0, 90, .inl (fun _ => 0))), (q14, .inl (ar 0, 90, .inl (fun _ => 0))), (q15, .inl (ar 0, 90, .inl (fun _ => 0)))] H := hP
  have hD : va_D A [(h0, .inr (6, [.ref q1, .ref q2, .ref q3, .ref q4, .int 0, .int (-1), .int 0, .int 0, .int 0, .int 0, .int 0, .ref q5, .ref q6, .ref q7, .ref q8, .ref q9, .ref q10, .ref q11, .int 0, .ref q12, .ref q13, .ref q14, .ref q15, .null, .null, .null, .null, .null, .null, .int 0, .int 0, .int 0, .int 0, .int 0, .long 0, .null, .null, .null, .null, .null, .null, .null, .int 0, .int 0, .int 0])), (q1, .inl (ar 0, 72, .inl (fun _ => 0))), (q2, .inl (ar 0, 1200, .inl (fun _ => 0))), (q3, .inl (ar 0, 1200, .inl (fun _ => 0))), (q4, .inl (ar 0, 6, .inl (fun _ => 0))), (q5, .inl (ar 0, 80, .inl (fun _ => 0))), (q6, .inl (ar 0, 80, .inl (fun _ => 0))), (q7, .inl (ar 0, 80, .inl (fun _ => 0))), (q8, .inl (ar 0, 320, .inl (fun _ => 0))), (q9, .inl (ar 0, 40, .inl (fun _ => 0))), (q10, .inl (ar 0, 40, .inl (fun _ => 0))), (q11, .inl (ar 0, 8, .inl (fun _ => 0))), (q12, .inl (ar 3, 8, .inl (fun _ => 0))), (q13, .inl (ar 0, 90, .inl (fun _ => 0))), (q14, .inl (ar 0, 90, .inl (fun _ => 0))), (q15, .inl (ar 0, 90, .inl (fun _ => 0)))] := hD
  refine lv_aload_n hx hb d_Mo_init_132 rfl (lv_at hl 0 rfl) ?_
  refine lv_bipush (v := 90) hx hb d_Mo_init_133 (by decide) ?_
  refine x_newa (D := (dC, dI)) (ar := ar) (atype := .int) hx hb (hts _ k_76) (ty := .int) rfl hK hP hD hS hA (N' := 90) (a0 := (90, .inl (fun _ => 0))) (fun _ => rfl) (by decide) (by decide) (by decide) (Nat.le_of_ble_eq_true rfl) (Nat.le_of_ble_eq_true rfl) 0 rfl (by decide) d_Mo_init_135 (fun q16 H hP hD hS => ?_)
  have hP : va_P (dC, dI) x_cl [(h0, .inr (6, [.ref q1, .ref q2, .ref q3, .ref q4, .int 0, .int (-1), .int 0, .int 0, .int 0, .int 0, .int 0, .ref q5, .ref q6, .ref q7, .ref q8, .ref q9, .ref q10, .ref q11, .int 0, .ref q12, .ref q13, .ref q14, .ref q15, .null, .null, .null, .null, .null, .null, .int 0, .int 0, .int 0, .int 0, .int 0, .long 0, .null, .null, .null, .null, .null, .null, .null, .int 0, .int 0, .int 0])), (q1, .inl (ar 0, 72, .inl (fun _ => 0))), (q2, .inl (ar 0, 1200, .inl (fun _ => 0))), (q3, .inl (ar 0, 1200, .inl (fun _ => 0))), (q4, .inl (ar 0, 6, .inl (fun _ => 0))), (q5, .inl (ar 0, 80, .inl (fun _ => 0))), (q6, .inl (ar 0, 80, .inl (fun _ => 0))), (q7, .inl (ar 0, 80, .inl (fun _ => 0))), (q8, .inl (ar 0, 320, .inl (fun _ => 0))), (q9, .inl (ar 0, 40, .inl (fun _ => 0))), (q10, .inl (ar 0, 40, .inl (fun _ => 0))), (q11, .inl (ar 0, 8, .inl (fun _ => 0))), (q12, .inl (ar 3, 8, .inl (fun _ => 0))), (q13, .inl (ar 0, 90, .inl (fun _ => 0))), (q14, .inl (ar 0, 90, .inl (fun _ => 0))), (q15, .inl (ar 0, 90, .inl (fun _ => 0))), (q16, .inl (ar 0, 90, .inl (fun _ => 0)))] H := hP
  have hD : va_D A [(h0, .inr (6, [.ref q1, .ref q2, .ref q3, .ref q4, .int 0, .int (-1), .int 0, .int 0, .int 0, .int 0, .int 0, .ref q5, .ref q6, .ref q7, .ref q8, .ref q9, .ref q10, .ref q11, .int 0, .ref q12, .ref q13, .ref q14, .ref q15, .null, .null, .null, .null, .null, .null, .int 0, .int 0, .int 0, .int 0, .int 0, .long 0, .null, .null, .null, .null, .null, .null, .null, .int 0, .int 0, .int 0])), (q1, .inl (ar 0, 72, .inl (fun _ => 0))), (q2, .inl (ar 0, 1200, .inl (fun _ => 0))), (q3, .inl (ar 0, 1200, .inl (fun _ => 0))), (q4, .inl (ar 0, 6, .inl (fun _ => 0))), (q5, .inl (ar 0, 80, .inl (fun _ => 0))), (q6, .inl (ar 0, 80, .inl (fun _ => 0))), (q7, .inl (ar 0, 80, .inl (fun _ => 0))), (q8, .inl (ar 0, 320, .inl (fun _ => 0))), (q9, .inl (ar 0, 40, .inl (fun _ => 0))), (q10, .inl (ar 0, 40, .inl (fun _ => 0))), (q11, .inl (ar 0, 8, .inl (fun _ => 0))), (q12, .inl (ar 3, 8, .inl (fun _ => 0))), (q13, .inl (ar 0, 90, .inl (fun _ => 0))), (q14, .inl (ar 0, 90, .inl (fun _ => 0))), (q15, .inl (ar 0, 90, .inl (fun _ => 0))), (q16, .inl (ar 0, 90, .inl (fun _ => 0)))] := hD
  refine W.widen (k := 16) (n := 3494) (Nat.le_of_ble_eq_true rfl) (Nat.le_of_ble_eq_true rfl) ?_
  refine va_putF (D := (dC, dI)) (ci := 6) (v := .ref q16) (ty := (.array .int)) (C := "ChannelMachineModel") (T := F_Mo) (N := 45) hx hb hts i_Mo t_Mo t_Mo_ok n_Mo hown hK hP hD hS 0 rfl rfl 23 (by decide) (hts _ k_990) (fun _ h9 => h9) rfl hin rfl (by decide +kernel) rfl rfl (Nat.le_of_ble_eq_true rfl) d_Mo_init_137 (fun H locs hP hD hS => ?_)
  have hP : va_P (dC, dI) x_cl [(h0, .inr (6, [.ref q1, .ref q2, .ref q3, .ref q4, .int 0, .int (-1), .int 0, .int 0, .int 0, .int 0, .int 0, .ref q5, .ref q6, .ref q7, .ref q8, .ref q9, .ref q10, .ref q11, .int 0, .ref q12, .ref q13, .ref q14, .ref q15, .ref q16, .null, .null, .null, .null, .null, .int 0, .int 0, .int 0, .int 0, .int 0, .long 0, .null, .null, .null, .null, .null, .null, .null, .int 0, .int 0, .int 0])), (q1, .inl (ar 0, 72, .inl (fun _ => 0))), (q2, .inl (ar 0, 1200, .inl (fun _ => 0))), (q3, .inl (ar 0, 1200, .inl (fun _ => 0))), (q4, .inl (ar 0, 6, .inl (fun _ => 0))), (q5, .inl (ar 0, 80, .inl (fun _ => 0))), (q6, .inl (ar 0, 80, .inl (fun _ => 0))), (q7, .inl (ar 0, 80, .inl (fun _ => 0))), (q8, .inl (ar 0, 320, .inl (fun _ => 0))), (q9, .inl (ar 0, 40, .inl (fun _ => 0))), (q10, .inl (ar 0, 40, .inl (fun _ => 0))), (q11, .inl (ar 0, 8, .inl (fun _ => 0))), (q12, .inl (ar 3, 8, .inl (fun _ => 0))), (q13, .inl (ar 0, 90, .inl (fun _ => 0))), (q14, .inl (ar 0, 90, .inl (fun _ => 0))), (q15, .inl (ar 0, 90, .inl (fun _ => 0))), (q16, .inl (ar 0, 90, .inl (fun _ => 0)))] H := hP
  have hD : va_D A [(h0, .inr (6, [.ref q1, .ref q2, .ref q3, .ref q4, .int 0, .int (-1), .int 0, .int 0, .int 0, .int 0, .int 0, .ref q5, .ref q6, .ref q7, .ref q8, .ref q9, .ref q10, .ref q11, .int 0, .ref q12, .ref q13, .ref q14, .ref q15, .ref q16, .null, .null, .null, .null, .null, .int 0, .int 0, .int 0, .int 0, .int 0, .long 0, .null, .null, .null, .null, .null, .null, .null, .int 0, .int 0, .int 0])), (q1, .inl (ar 0, 72, .inl (fun _ => 0))), (q2, .inl (ar 0, 1200, .inl (fun _ => 0))), (q3, .inl (ar 0, 1200, .inl (fun _ => 0))), (q4, .inl (ar 0, 6, .inl (fun _ => 0))), (q5, .inl (ar 0, 80, .inl (fun _ => 0))), (q6, .inl (ar 0, 80, .inl (fun _ => 0))), (q7, .inl (ar 0, 80, .inl (fun _ => 0))), (q8, .inl (ar 0, 320, .inl (fun _ => 0))), (q9, .inl (ar 0, 40, .inl (fun _ => 0))), (q10, .inl (ar 0, 40, .inl (fun _ => 0))), (q11, .inl (ar 0, 8, .inl (fun _ => 0))), (q12, .inl (ar 3, 8, .inl (fun _ => 0))), (q13, .inl (ar 0, 90, .inl (fun _ => 0))), (q14, .inl (ar 0, 90, .inl (fun _ => 0))), (q15, .inl (ar 0, 90, .inl (fun _ => 0))), (q16, .inl (ar 0, 90, .inl (fun _ => 0)))] := hD
  refine lv_aload_n hx hb d_Mo_init_140 rfl (lv_at hl 0 rfl) ?_
  refine lv_bipush (v := 90) hx hb d_Mo_init_141 (by decide) ?_
  refine x_newa (D := (dC, dI)) (ar := ar) (atype := .int) hx hb (hts _ k_76) (ty := .int) rfl hK hP hD hS hA (N' := 90) (a0 := (90, .inl (fun _ => 0))) (fun _ => rfl) (by decide) (by decide) (by decide) (Nat.le_of_ble_eq_true rfl) (Nat.le_of_ble_eq_true rfl) 0 rfl (by decide) d_Mo_init_143 (fun q17 H hP hD hS => ?_)
  have hP : va_P (dC, dI) x_cl [(h0, .inr (6, [.ref q1, .ref q2, .ref q3, .ref q4, .int 0, .int (-1), .int 0, .int 0, .int 0, .int 0, .int 0, .ref q5, .ref q6, .ref q7, .ref q8, .ref q9, .ref q10, .ref q11, .int 0, .ref q12, .ref q13, .ref q14, .ref q15, .ref q16, .null, .null, .null, .null, .null, .int 0, .int 0, .int 0, .int 0, .int 0, .long 0, .null, .null, .null, .null, .null, .null, .null, .int 0, .int 0, .int 0])), (q1, .inl (ar 0, 72, .inl (fun _ => 0))), (q2, .inl (ar 0, 1200, .inl (fun _ => 0))), (q3, .inl (ar 0, 1200, .inl (fun _ => 0))), (q4, .inl (ar 0, 6, .inl (fun _ => 0))), (q5, .inl (ar 0, 80, .inl (fun _ => 0))), (q6, .inl (ar 0, 80, .inl (fun _ => 0))), (q7, .inl (ar 0, 80, .inl (fun _ => 0))), (q8, .inl (ar 0, 320, .inl (fun _ => 0))), (q9, .inl (ar 0, 40, .inl (fun _ => 0))), (q10, .inl (ar 0, 40, .inl (fun _ => 0))), (q11, .inl (ar 0, 8, .inl (fun _ => 0))), (q12, .inl (ar 3, 8, .inl (fun _ => 0))), (q13, .inl (ar 0, 90, .inl (fun _ => 0))), (q14, .inl (ar 0, 90, .inl (fun _ => 0))), (q15, .inl (ar 0, 90, .inl (fun _ => 0))), (q16, .inl (ar 0, 90, .inl (fun _ => 0))), (q17, .inl (ar 0, 90, .inl (fun _ => 0)))] H := hP
  have hD : va_D A [(h0, .inr (6, [.ref q1, .ref q2, .ref q3, .ref q4, .int 0, .int (-1), .int 0, .int 0, .int 0, .int 0, .int 0, .ref q5, .ref q6, .ref q7, .ref q8, .ref q9, .ref q10, .ref q11, .int 0, .ref q12, .ref q13, .ref q14, .ref q15, .ref q16, .null, .null, .null, .null, .null, .int 0, .int 0, .int 0, .int 0, .int 0, .long 0, .null, .null, .null, .null, .null, .null, .null, .int 0, .int 0, .int 0])), (q1, .inl (ar 0, 72, .inl (fun _ => 0))), (q2, .inl (ar 0, 1200, .inl (fun _ => 0))), (q3, .inl (ar 0, 1200, .inl (fun _ => 0))), (q4, .inl (ar 0, 6, .inl (fun _ => 0))), (q5, .inl (ar 0, 80, .inl (fun _ => 0))), (q6, .inl (ar 0, 80, .inl (fun _ => 0))), (q7, .inl (ar 0, 80, .inl (fun _ => 0))), (q8, .inl (ar 0, 320, .inl (fun _ => 0))), (q9, .inl (ar 0, 40, .inl (fun _ => 0))), (q10, .inl (ar 0, 40, .inl (fun _ => 0))), (q11, .inl (ar 0, 8, .inl (fun _ => 0))), (q12, .inl (ar 3, 8, .inl (fun _ => 0))), (q13, .inl (ar 0, 90, .inl (fun _ => 0))), (q14, .inl (ar 0, 90, .inl (fun _ => 0))), (q15, .inl (ar 0, 90, .inl (fun _ => 0))), (q16, .inl (ar 0, 90, .inl (fun _ => 0))), (q17, .inl (ar 0, 90, .inl (fun _ => 0)))] := hD
  refine W.widen (k := 17) (n := 3584) (Nat.le_of_ble_eq_true rfl) (Nat.le_of_ble_eq_true rfl) ?_
  refine va_putF (D := (dC, dI)) (ci := 6) (v := .ref q17) (ty := (.array .int)) (C := "ChannelMachineModel") (T := F_Mo) (N := 45) hx hb hts i_Mo t_Mo t_Mo_ok n_Mo hown hK hP hD hS 0 rfl rfl 24 (by decide) (hts _ k_991) (fun _ h9 => h9) rfl hin rfl (by decide +kernel) rfl rfl (Nat.le_of_ble_eq_true rfl) d_Mo_init_145 (fun H locs hP hD hS => ?_)
  have hP : va_P (dC, dI) x_cl [(h0, .inr (6, [.ref q1, .ref q2, .ref q3, .ref q4, .int 0, .int (-1), .int 0, .int 0, .int 0, .int 0, .int 0, .ref q5, .ref q6, .ref q7, .ref q8, .ref q9, .ref q10, .ref q11, .int 0, .ref q12, .ref q13, .ref q14, .ref q15, .ref q16, .ref q17, .null, .null, .null, .null, .int 0, .int 0, .int 0, .int 0, .int 0, .long 0, .null, .null, .null, .null, .null, .null, .null, .int 0, .int 0, .int 0])), (q1, .inl (ar 0, 72, .inl (fun _ => 0))), (q2, .inl (ar 0, 1200, .inl (fun _ => 0))), (q3, .inl (ar 0, 1200, .inl (fun _ => 0))), (q4, .inl (ar 0, 6, .inl (fun _ => 0))), (q5, .inl (ar 0, 80, .inl (fun _ => 0))), (q6, .inl (ar 0, 80, .inl (fun _ => 0))), (q7, .inl (ar 0, 80, .inl (fun _ => 0))), (q8, .inl (ar 0, 320, .inl (fun _ => 0))), (q9, .inl (ar 0, 40, .inl (fun _ => 0))), (q10, .inl (ar 0, 40, .inl (fun _ => 0))), (q11, .inl (ar 0, 8, .inl (fun _ => 0))), (q12, .inl (ar 3, 8, .inl (fun _ => 0))), (q13, .inl (ar 0, 90, .inl (fun _ => 0))), (q14, .inl (ar 0, 90, .inl (fun _ => 0))), (q15, .inl (ar 0, 90, .inl (fun _ => 0))), (q16, .inl (ar 0, 90, .inl (fun _ => 0))), (q17, .inl (ar 0, 90, .inl (fun _ => 0)))] H := hP
  have hD : va_D A [(h0, .inr (6, [.ref q1, .ref q2, .ref q3, .ref q4, .int 0, .int (-1), .int 0, .int 0, .int 0, .int 0, .int 0, .ref q5, .ref q6, .ref q7, .ref q8, .ref q9, .ref q10, .ref q11, .int 0, .ref q12, .ref q13, .ref q14, .ref q15, .ref q16, .ref q17, .null, .null, .null, .null, .int 0, .int 0, .int 0, .int 0, .int 0, .long 0, .null, .null, .null, .null, .null, .null, .null, .int 0, .int 0, .int 0])), (q1, .inl (ar 0, 72, .inl (fun _ => 0))), (q2, .inl (ar 0, 1200, .inl (fun _ => 0))), (q3, .inl (ar 0, 1200, .inl (fun _ => 0))), (q4, .inl (ar 0, 6, .inl (fun _ => 0))), (q5, .inl (ar 0, 80, .inl (fun _ => 0))), (q6, .inl (ar 0, 80, .inl (fun _ => 0))), (q7, .inl (ar 0, 80, .inl (fun _ => 0))), (q8, .inl (ar 0, 320, .inl (fun _ => 0))), (q9, .inl (ar 0, 40, .inl (fun _ => 0))), (q10, .inl (ar 0, 40, .inl (fun _ => 0))), (q11, .inl (ar 0, 8, .inl (fun _ => 0))), (q12, .inl (ar 3, 8, .inl (fun _ => 0))), (q13, .inl (ar 0, 90, .inl (fun _ => 0))), (q14, .inl (ar 0, 90, .inl (fun _ => 0))), (q15, .inl (ar 0, 90, .inl (fun _ => 0))), (q16, .inl (ar 0, 90, .inl (fun _ => 0))), (q17, .inl (ar 0, 90, .inl (fun _ => 0)))] := hD
  refine lv_aload_n hx hb d_Mo_init_148 rfl (lv_at hl 0 rfl) ?_
  refine lv_bipush (v := 80) hx hb d_Mo_init_149 (by decide) ?_
  refine x_newa (D := (dC, dI)) (ar := ar) (atype := .int) hx hb (hts _ k_76) (ty := .int) rfl hK hP hD hS hA (N' := 80) (a0 := (80, .inl (fun _ => 0))) (fun _ => rfl) (by decide) (by decide) (by decide) (Nat.le_of_ble_eq_true rfl) (Nat.le_of_ble_eq_true rfl) 0 rfl (by decide) d_Mo_init_151 (fun q18 H hP hD hS => ?_)
  have hP : va_P (dC, dI) x_cl [(h0, .inr (6, [.ref q1, .ref q2, .ref q3, .ref q4, .int 0, .int (-1), .int 0, .int 0, .int 0, .int 0, .int 0, .ref q5, .ref q6, .ref q7, .ref q8, .ref q9, .ref q10, .ref q11, .int 0, .ref q12, .ref q13, .ref q14, .ref q15, .ref q16, .ref q17, .null, .null, .null, .null, .int 0, .int 0, .int 0, .int 0, .int 0, .long 0, .null, .null, .null, .null, .null, .null, .null, .int 0, .int 0, .int 0])), (q1, .inl (ar 0, 72, .inl (fun _ => 0))), (q2, .inl (ar 0, 1200, .inl (fun _ => 0))), (q3, .inl (ar 0, 1200, .inl (fun _ => 0))), (q4, .inl (ar 0, 6, .inl (fun _ => 0))), (q5, .inl (ar 0, 80, .inl (fun _ => 0))), (q6, .inl (ar 0, 80, .inl (fun _ => 0))), (q7, .inl (ar 0, 80, .inl (fun _ => 0))), (q8, .inl (ar 0, 320, .inl (fun _ => 0))), (q9, .inl (ar 0, 40, .inl (fun _ => 0))), (q10, .inl (ar 0, 40, .inl (fun _ => 0))), (q11, .inl (ar 0, 8, .inl (fun _ => 0))), (q12, .inl (ar 3, 8, .inl (fun _ => 0))), (q13, .inl (ar 0, 90, .inl (fun _ => 0))), (q14, .inl (ar 0, 90, .inl (fun _ => 0))), (q15, .inl (ar 0, 90, .inl (fun _ => 0))), (q16, .inl (ar 0, 90, .inl (fun _ => 0))), (q17, .inl (ar 0, 90, .inl (fun _ => 0))), (q18, .inl (ar 0, 80, .inl (fun _ => 0)))] H := hP
  have hD : va_D A [(h0, .inr (6, [.ref q1, .ref q2, .ref q3, .ref q4, .int 0, .int (-1), .int 0, .int 0, .int 0, .int 0, .int 0, .ref q5, .ref q6, .ref q7, .ref q8, .ref q9, .ref q10, .ref q11, .int 0, .ref q12, .ref q13, .ref q14, .ref q15, .ref q16, .ref q17, .null, .null, .null, .null, .int 0, .int 0, .int 0, .int 0, .int 0, .long 0, .null, .null, .null, .null, .null, .null, .null, .int 0, .int 0, .int 0])), (q1, .inl (ar 0, 72, .inl (fun _ => 0))), (q2, .inl (ar 0, 1200, .inl (fun _ => 0))), (q3, .inl (ar 0, 1200, .inl (fun _ => 0))), (q4, .inl (ar 0, 6, .inl (fun _ => 0))), (q5, .inl (ar 0, 80, .inl (fun _ => 0))), (q6, .inl (ar 0, 80, .inl (fun _ => 0))), (q7, .inl (ar 0, 80, .inl (fun _ => 0))), (q8, .inl (ar 0, 320, .inl (fun _ => 0))), (q9, .inl (ar 0, 40, .inl (fun _ => 0))), (q10, .inl (ar 0, 40, .inl (fun _ => 0))), (q11, .inl (ar 0, 8, .inl (fun _ => 0))), (q12, .inl (ar 3, 8, .inl (fun _ => 0))), (q13, .inl (ar 0, 90, .inl (fun _ => 0))), (q14, .inl (ar 0, 90, .inl (fun _ => 0))), (q15, .inl (ar 0, 90, .inl (fun _ => 0))), (q16, .inl (ar 0, 90, .inl (fun _ => 0))), (q17, .inl (ar 0, 90, .inl (fun _ => 0))), (q18, .inl (ar 0, 80, .inl (fun _ => 0)))] := hD
  refine W.widen (k := 18) (n := 3664) (Nat.le_of_ble_eq_true rfl) (Nat.le_of_ble_eq_true rfl) ?_
  refine va_putF (D := (dC, dI)) (ci := 6) (v := .ref q18) (ty := (.array .int)) (C := "ChannelMachineModel") (T := F_Mo) (N := 45) hx hb hts i_Mo t_Mo t_Mo_ok n_Mo hown hK hP hD hS 0 rfl rfl 25 (by decide) (hts _ k_992) (fun _ h9 => h9) rfl hin rfl (by decide +kernel) rfl rfl (Nat.le_of_ble_eq_true rfl) d_Mo_init_153 (fun H locs hP hD hS => ?_)
  have hP : va_P (dC, dI) x_cl [(h0, .inr (6, [.ref q1, .ref q2, .ref q3, .ref q4, .int 0, .int (-1), .int 0, .int 0, .int 0, .int 0, .int 0, .ref q5, .ref q6, .ref q7, .ref q8, .ref q9, .ref q10, .ref q11, .int 0, .ref q12, .ref q13, .ref q14, .ref q15, .ref q16, .ref q17, .ref q18, .null, .null, .null, .int 0, .int 0, .int 0, .int 0, .int 0, .long 0, .null, .null, .null, .null, .null, .null, .null, .int 0, .int 0, .int 0])), (q1, .inl (ar 0, 72, .inl (fun _ => 0))), (q2, .inl (ar 0, 1200, .inl (fun _ => 0))), (q3, .inl (ar 0, 1200, .inl (fun _ => 0))), (q4, .inl (ar 0, 6, .inl (fun _ => 0))), (q5, .inl (ar 0, 80, .inl (fun _ => 0))), (q6, .inl (ar 0, 80, .inl (fun _ => 0))), (q7, .inl (ar 0, 80, .inl (fun _ => 0))), (q8, .inl (ar 0, 320, .inl (fun _ => 0))), (q9, .inl (ar 0, 40, .inl (fun _ => 0))), (q10, .inl (ar 0, 40, .inl (fun _ => 0))), (q11, .inl (ar 0, 8, .inl (fun _ => 0))), (q12, .inl (ar 3, 8, .inl (fun _ => 0))), (q13, .inl (ar 0, 90, .inl (fun _ => 0))), (q14, .inl (ar 0, 90, .inl (fun _ => 0))), (q15, .inl (ar 0, 90, .inl (fun _ => 0))), (q16, .inl (ar 0, 90, .inl (fun _ => 0))), (q17, .inl (ar 0, 90, .inl (fun _ => 0))), (q18, .inl (ar 0, 80, .inl (fun _ => 0)))] H := hP
  have hD : va_D A [(h0, .inr (6, [.ref q1, .ref q2, .ref q3, .ref q4, .int 0, .int (-1), .int 0, .int 0, .int 0, .int 0, .int 0, .ref q5, .ref q6, .ref q7, .ref q8, .ref q9, .ref q10, .ref q11, .int 0, .ref q12, .ref q13, .ref q14, .ref q15, .ref q16, .ref q17, .ref q18, .null, .null, .null, .int 0, .int 0, .int 0, .int 0, .int 0, .long 0, .null, .null, .null, .null, .null, .null, .null, .int 0, .int 0, .int 0])), (q1, .inl (ar 0, 72, .inl (fun _ => 0))), (q2, .inl (ar 0, 1200, .inl (fun _ => 0))), (q3, .inl (ar 0, 1200, .inl (fun _ => 0))), (q4, .inl (ar 0, 6, .inl (fun _ => 0))), (q5, .inl (ar 0, 80, .inl (fun _ => 0))), (q6, .inl (ar 0, 80, .inl (fun _ => 0))), (q7, .inl (ar 0, 80, .inl (fun _ => 0))), (q8, .inl (ar 0, 320, .inl (fun _ => 0))), (q9, .inl (ar 0, 40, .inl (fun _ => 0))), (q10, .inl (ar 0, 40, .inl (fun _ => 0))), (q11, .inl (ar 0, 8, .inl (fun _ => 0))), (q12, .inl (ar 3, 8, .inl (fun _ => 0))), (q13, .inl (ar 0, 90, .inl (fun _ => 0))), (q14, .inl (ar 0, 90, .inl (fun _ => 0))), (q15, .inl (ar 0, 90, .inl (fun _ => 0))), (q16, .inl (ar 0, 90, .inl (fun _ => 0))), (q17, .inl (ar 0, 90, .inl (fun _ => 0))), (q18, .inl (ar 0, 80, .inl (fun _ => 0)))] := hD
  refine lv_aload_n hx hb d_Mo_init_156 rfl (lv_at hl 0 rfl) ?_
  refine lv_bipush (v := 90) hx hb d_Mo_init_157 (by decide) ?_
  refine x_newa (D := (dC, dI)) (ar := ar) (atype := .long) hx hb (hts _ k_1104) (ty := .long) rfl hK hP hD hS hA (N' := 90) (a0 := (90, .inr (.inl (fun _ => 0)))) (fun _ => rfl) (by decide) (by decide) (by decide) (Nat.le_of_ble_eq_true rfl) (Nat.le_of_ble_eq_true rfl) 2 rfl (by decide) d_Mo_init_159 (fun q19 H hP hD hS => ?_)
  have hP : va_P (dC, dI) x_cl [(h0, .inr (6, [.ref q1, .ref q2, .ref q3, .ref q4, .int 0, .int (-1), .int 0, .int 0, .int 0, .int 0, .int 0, .ref q5, .ref q6, .ref q7, .ref q8, .ref q9, .ref q10, .ref q11, .int 0, .ref q12, .ref q13, .ref q14, .ref q15, .ref q16, .ref q17, .ref q18, .null, .null, .null, .int 0, .int 0, .int 0, .int 0, .int 0, .long 0, .null, .null, .null, .null, .null, .null, .null, .int 0, .int 0, .int 0])), (q1, .inl (ar 0, 72, .inl (fun _ => 0))), (q2, .inl (ar 0, 1200, .inl (fun _ => 0))), (q3, .inl (ar 0, 1200, .inl (fun _ => 0))), (q4, .inl (ar 0, 6, .inl (fun _ => 0))), (q5, .inl (ar 0, 80, .inl (fun _ => 0))), (q6, .inl (ar 0, 80, .inl (fun _ => 0))), (q7, .inl (ar 0, 80, .inl (fun _ => 0))), (q8, .inl (ar 0, 320, .inl (fun _ => 0))), (q9, .inl (ar 0, 40, .inl (fun _ => 0))), (q10, .inl (ar 0, 40, .inl (fun _ => 0))), (q11, .inl (ar 0, 8, .inl (fun _ => 0))), (q12, .inl (ar 3, 8, .inl (fun _ => 0))), (q13, .inl (ar 0, 90, .inl (fun _ => 0))), (q14, .inl (ar 0, 90, .inl (fun _ => 0))), (q15, .inl (ar 0, 90, .inl (fun _ => 0))), (q16, .inl (ar 0, 90, .inl (fun _ => 0))), (q17, .inl (ar 0, 90, .inl (fun _ => 0))), (q18, .inl (ar 0, 80, .inl (fun _ => 0))), (q19, .inl (ar 2, 90, .inr (.inl (fun _ => 0))))] H := hP
  have hD : va_D A [(h0, .inr (6, [.ref q1, .ref q2, .ref q3, .ref q4, .int 0, .int (-1), .int 0, .int 0, .int 0, .int 0, .int 0, .ref q5, .ref q6, .ref q7, .ref q8, .ref q9, .ref q10, .ref q11, .int 0, .ref q12, .ref q13, .ref q14, .ref q15, .ref q16, .ref q17, .ref q18, .null, .null, .null, .int 0, .int 0, .int 0, .int 0, .int 0, .long 0, .null, .null, .null, .null, .null, .null, .null, .int 0, .int 0, .int 0])), (q1, .inl (ar 0, 72, .inl (fun _ => 0))), (q2, .inl (ar 0, 1200, .inl (fun _ => 0))), (q3, .inl (ar 0, 1200, .inl (fun _ => 0))), (q4, .inl (ar 0, 6, .inl (fun _ => 0))), (q5, .inl (ar 0, 80, .inl (fun _ => 0))), (q6, .inl (ar 0, 80, .inl (fun _ => 0))), (q7, .inl (ar 0, 80, .inl (fun _ => 0))), (q8, .inl (ar 0, 320, .inl (fun _ => 0))), (q9, .inl (ar 0, 40, .inl (fun _ => 0))), (q10, .inl (ar 0, 40, .inl (fun _ => 0))), (q11, .inl (ar 0, 8, .inl (fun _ => 0))), (q12, .inl (ar 3, 8, .inl (fun _ => 0))), (q13, .inl (ar 0, 90, .inl (fun _ => 0))), (q14, .inl (ar 0, 90, .inl (fun _ => 0))), (q15, .inl (ar 0, 90, .inl (fun _ => 0))), (q16, .inl (ar 0, 90, .inl (fun _ => 0))), (q17, .inl (ar 0, 90, .inl (fun _ => 0))), (q18, .inl (ar 0, 80, .inl (fun _ => 0))), (q19, .inl (ar 2, 90, .inr (.inl (fun _ => 0))))] := hD
  refine W.widen (k := 19) (n := 3754) (Nat.le_of_ble_eq_true rfl) (Nat.le_of_ble_eq_true rfl) ?_
  refine va_putF (D := (dC, dI)) (ci := 6) (v := .ref q19) (ty := (.array .long)) (C := "ChannelMachineModel") (T := F_Mo) (N := 45) hx hb hts i_Mo t_Mo t_Mo_ok n_Mo hown hK hP hD hS 0 rfl rfl 26 (by decide) (hts _ k_993) (fun _ h9 => h9) rfl hin rfl (by decide +kernel) rfl rfl (Nat.le_of_ble_eq_true rfl) d_Mo_init_161 (fun H locs hP hD hS => ?_)
  have hP : va_P (dC, dI) x_cl [(h0, .inr (6, [.ref q1, .ref q2, .ref q3, .ref q4, .int 0, .int (-1), .int 0, .int 0, .int 0, .int 0, .int 0, .ref q5, .ref q6, .ref q7, .ref q8, .ref q9, .ref q10, .ref q11, .int 0, .ref q12, .ref q13, .ref q14, .ref q15, .ref q16, .ref q17, .ref q18, .ref q19, .null, .null, .int 0, .int 0, .int 0, .int 0, .int 0, .long 0, .null, .null, .null, .null, .null, .null, .null, .int 0, .int 0, .int 0])), (q1, .inl (ar 0, 72, .inl (fun _ => 0))), (q2, .inl (ar 0, 1200, .inl (fun _ => 0))), (q3, .inl (ar 0, 1200, .inl (fun _ => 0))), (q4, .inl (ar 0, 6, .inl (fun _ => 0))), (q5, .inl (ar 0, 80, .inl (fun _ => 0))), (q6, .inl (ar 0, 80, .inl (fun _ => 0))), (q7, .inl (ar 0, 80, .inl (fun _ => 0))), (q8, .inl (ar 0, 320, .inl (fun _ => 0))), (q9, .inl (ar 0, 40, .inl (fun _ => 0))), (q10, .inl (ar 0, 40, .inl (fun _ => 0))), (q11, .inl (ar 0, 8, .inl (fun _ => 0))), (q12, .inl (ar 3, 8, .inl (fun _ => 0))), (q13, .inl (ar 0, 90, .inl (fun _ => 0))), (q14, .inl (ar 0, 90, .inl (fun _ => 0))), (q15, .inl (ar 0, 90, .inl (fun _ => 0))), (q16, .inl (ar 0, 90, .inl (fun _ => 0))), (q17, .inl (ar 0, 90, .inl (fun _ => 0))), (q18, .inl (ar 0, 80, .inl (fun _ => 0))), (q19, .inl (ar 2, 90, .inr (.inl (fun _ => 0))))] H := hP
  have hD : va_D A [(h0, .inr (6, [.ref q1, .ref q2, .ref q3, .ref q4, .int 0, .int (-1), .int 0, .int 0, .int 0, .int 0, .int 0, .ref q5, .ref q6, .ref q7, .ref q8, .ref q9, .ref q10, .ref q11, .int 0, .ref q12, .ref q13, .ref q14, .ref q15, .ref q16, .ref q17, .ref q18, .ref q19, .null, .null, .int 0, .int 0, .int 0, .int 0, .int 0, .long 0, .null, .null, .null, .null, .null, .null, .null, .int 0, .int 0, .int 0])), (q1, .inl (ar 0, 72, .inl (fun _ => 0))), (q2, .inl (ar 0, 1200, .inl (fun _ => 0))), (q3, .inl (ar 0, 1200, .inl (fun _ => 0))), (q4, .inl (ar 0, 6, .inl (fun _ => 0))), (q5, .inl (ar 0, 80, .inl (fun _ => 0))), (q6, .inl (ar 0, 80, .inl (fun _ => 0))), (q7, .inl (ar 0, 80, .inl (fun _ => 0))), (q8, .inl (ar 0, 320, .inl (fun _ => 0))), (q9, .inl (ar 0, 40, .inl (fun _ => 0))), (q10, .inl (ar 0, 40, .inl (fun _ => 0))), (q11, .inl (ar 0, 8, .inl (fun _ => 0))), (q12, .inl (ar 3, 8, .inl (fun _ => 0))), (q13, .inl (ar 0, 90, .inl (fun _ => 0))), (q14, .inl (ar 0, 90, .inl (fun _ => 0))), (q15, .inl (ar 0, 90, .inl (fun _ => 0))), (q16, .inl (ar 0, 90, .inl (fun _ => 0))), (q17, .inl (ar 0, 90, .inl (fun _ => 0))), (q18, .inl (ar 0, 80, .inl (fun _ => 0))), (q19, .inl (ar 2, 90, .inr (.inl (fun _ => 0))))] := hD
  refine lv_aload_n hx hb d_Mo_init_164 rfl (lv_at hl 0 rfl) ?_
  refine lv_bipush (v := 90) hx hb d_Mo_init_165 (by decide) ?_
  refine x_newa (D := (dC, dI)) (ar := ar) (atype := .boolean) hx hb (hts _ k_1103) (ty := .boolean) rfl hK hP hD hS hA (N' := 90) (a0 := (90, .inl (fun _ => 0))) (fun _ => rfl) (by decide) (by decide) (by decide) (Nat.le_of_ble_eq_true rfl) (Nat.le_of_ble_eq_true rfl) 3 rfl (by decide) d_Mo_init_167 (fun q20 H hP hD hS => ?_)
  have hP : va_P (dC, dI) x_cl [(h0, .inr (6, [.ref q1, .ref q2, .ref q3, .ref q4, .int 0, .int (-1), .int 0, .int 0, .int 0, .int 0, .int 0, .ref q5, .ref q6, .ref q7, .ref q8, .ref q9, .ref q10, .ref q11, .int 0, .ref q12, .ref q13, .ref q14, .ref q15, .ref q16, .ref q17, .ref q18, .ref q19, .null, .null, .int 0, .int 0, .int 0, .int 0, .int 0, .long 0, .null, .null, .null, .null, .null, .null, .null, .int 0, .int 0, .int 0])), (q1, .inl (ar 0, 72, .inl (fun _ => 0))), (q2, .inl (ar 0, 1200, .inl (fun _ => 0))), (q3, .inl (ar 0, 1200, .inl (fun _ => 0))), (q4, .inl (ar 0, 6, .inl (fun _ => 0))), (q5, .inl (ar 0, 80, .inl (fun _ => 0))), (q6, .inl (ar 0, 80, .inl (fun _ => 0))), (q7, .inl (ar 0, 80, .inl (fun _ => 0))), (q8, .inl (ar 0, 320, .inl (fun _ => 0))), (q9, .inl (ar 0, 40, .inl (fun _ => 0))), (q10, .inl (ar 0, 40, .inl (fun _ => 0))), (q11, .inl (ar 0, 8, .inl (fun _ => 0))), (q12, .inl (ar 3, 8, .inl (fun _ => 0))), (q13, .inl (ar 0, 90, .inl (fun _ => 0))), (q14, .inl (ar 0, 90, .inl (fun _ => 0))), (q15, .inl (ar 0, 90, .inl (fun _ => 0))), (q16, .inl (ar 0, 90, .inl (fun _ => 0))), (q17, .inl (ar 0, 90, .inl (fun _ => 0))), (q18, .inl (ar 0, 80, .inl (fun _ => 0))), (q19, .inl (ar 2, 90, .inr (.inl (fun _ => 0)))), (q20, .inl (ar 3, 90, .inl (fun _ => 0)))] H := hP
  have hD : va_D A [(h0, .inr (6, [.ref q1, .ref q2, .ref q3, .ref q4, .int 0, .int (-1), .int 0, .int 0, .int 0, .int 0, .int 0, .ref q5, .ref q6, .ref q7, .ref q8, .ref q9, .ref q10, .ref q11, .int 0, .ref q12, .ref q13, .ref q14, .ref q15, .ref q16, .ref q17, .ref q18, .ref q19, .null, .null, .int 0, .int 0, .int 0, .int 0, .int 0, .long 0, .null, .null, .null, .null, .null, .null, .null, .int 0, .int 0, .int 0])), (q1, .inl (ar 0, 72, .inl (fun _ => 0))), (q2, .inl (ar 0, 1200, .inl (fun _ => 0))), (q3, .inl (ar 0, 1200, .inl (fun _ => 0))), (q4, .inl (ar 0, 6, .inl (fun _ => 0))), (q5, .inl (ar 0, 80, .inl (fun _ => 0))), (q6, .inl (ar 0, 80, .inl (fun _ => 0))), (q7, .inl (ar 0, 80, .inl (fun _ => 0))), (q8, .inl (ar 0, 320, .inl (fun _ => 0))), (q9, .inl (ar 0, 40, .inl (fun _ => 0))), (q10, .inl (ar 0, 40, .inl (fun _ => 0))), (q11, .inl (ar 0, 8, .inl (fun _ => 0))), (q12, .inl (ar 3, 8, .inl (fun _ => 0))), (q13, .inl (ar 0, 90, .inl (fun _ => 0))), (q14, .inl (ar 0, 90, .inl (fun _ => 0))), (q15, .inl (ar 0, 90, .inl (fun _ => 0))), (q16, .inl (ar 0, 90, .inl (fun _ => 0))), (q17, .inl (ar 0, 90, .inl (fun _ => 0))), (q18, .inl (ar 0, 80, .inl (fun _ => 0))), (q19, .inl (ar 2, 90, .inr (.inl (fun _ => 0)))), (q20, .inl (ar 3, 90, .inl (fun _ => 0)))] := hD
  refine W.widen (k := 20) (n := 3844) (Nat.le_of_ble_eq_true rfl) (Nat.le_of_ble_eq_true rfl) ?_
  refine va_putF (D := (dC, dI)) (ci := 6) (v := .ref q20) (ty := (.array .boolean)) (C := "ChannelMachineModel") (T := F_Mo) (N := 45) hx hb hts i_Mo t_Mo t_Mo_ok n_Mo hown hK hP hD hS 0 rfl rfl 27 (by decide) (hts _ k_994) (fun _ h9 => h9) rfl hin rfl (by decide +kernel) rfl rfl (Nat.le_of_ble_eq_true rfl) d_Mo_init_169 (fun H locs hP hD hS => ?_)
  have hP : va_P (dC, dI) x_cl [(h0, .inr (6, [.ref q1, .ref q2, .ref q3, .ref q4, .int 0, .int (-1), .int 0, .int 0, .int 0, .int 0, .int 0, .ref q5, .ref q6, .ref q7, .ref q8, .ref q9, .ref q10, .ref q11, .int 0, .ref q12, .ref q13, .ref q14, .ref q15, .ref q16, .ref q17, .ref q18, .ref q19, .ref q20, .null, .int 0, .int 0, .int 0, .int 0, .int 0, .long 0, .null, .null, .null, .null, .null, .null, .null, .int 0, .int 0, .int 0])), (q1, .inl (ar 0, 72, .inl (fun _ => 0))), (q2, .inl (ar 0, 1200, .inl (fun _ => 0))), (q3, .inl (ar 0, 1200, .inl (fun _ => 0))), (q4, .inl (ar 0, 6, .inl (fun _ => 0))), (q5, .inl (ar 0, 80, .inl (fun _ => 0))), (q6, .inl (ar 0, 80, .inl (fun _ => 0))), (q7, .inl (ar 0, 80, .inl (fun _ => 0))), (q8, .inl (ar 0, 320, .inl (fun _ => 0))), (q9, .inl (ar 0, 40, .inl (fun _ => 0))), (q10, .inl (ar 0, 40, .inl (fun _ => 0))), (q11, .inl (ar 0, 8, .inl (fun _ => 0))), (q12, .inl (ar 3, 8, .inl (fun _ => 0))), (q13, .inl (ar 0, 90, .inl (fun _ => 0))), (q14, .inl (ar 0, 90, .inl (fun _ => 0))), (q15, .inl (ar 0, 90, .inl (fun _ => 0))), (q16, .inl (ar 0, 90, .inl (fun _ => 0))), (q17, .inl (ar 0, 90, .inl (fun _ => 0))), (q18, .inl (ar 0, 80, .inl (fun _ => 0))), (q19, .inl (ar 2, 90, .inr (.inl (fun _ => 0)))), (q20, .inl (ar 3, 90, .inl (fun _ => 0)))] H := hP
  have hD : va_D A [(h0, .inr (6, [.ref q1, .ref q2, .ref q3, .ref q4, .int 0, .int (-1), .int 0, .int 0, .int 0, .int 0, .int 0, .ref q5, .ref q6, .ref q7, .ref q8, .ref q9, .ref q10, .ref q11, .int 0, .ref q12, .ref q13, .ref q14, .ref q15, .ref q16, .ref q17, .ref q18, .ref q19, .ref q20, .null, .int 0, .int 0, .int 0, .int 0, .int 0, .long 0, .null, .null, .null, .null, .null, .null, .null, .int 0, .int 0, .int 0])), (q1, .inl (ar 0, 72, .inl (fun _ => 0))), (q2, .inl (ar 0, 1200, .inl (fun _ => 0))), (q3, .inl (ar 0, 1200, .inl (fun _ => 0))), (q4, .inl (ar 0, 6, .inl (fun _ => 0))), (q5, .inl (ar 0, 80, .inl (fun _ => 0))), (q6, .inl (ar 0, 80, .inl (fun _ => 0))), (q7, .inl (ar 0, 80, .inl (fun _ => 0))), (q8, .inl (ar 0, 320, .inl (fun _ => 0))), (q9, .inl (ar 0, 40, .inl (fun _ => 0))), (q10, .inl (ar 0, 40, .inl (fun _ => 0))), (q11, .inl (ar 0, 8, .inl (fun _ => 0))), (q12, .inl (ar 3, 8, .inl (fun _ => 0))), (q13, .inl (ar 0, 90, .inl (fun _ => 0))), (q14, .inl (ar 0, 90, .inl (fun _ => 0))), (q15, .inl (ar 0, 90, .inl (fun _ => 0))), (q16, .inl (ar 0, 90, .inl (fun _ => 0))), (q17, .inl (ar 0, 90, .inl (fun _ => 0))), (q18, .inl (ar 0, 80, .inl (fun _ => 0))), (q19, .inl (ar 2, 90, .inr (.inl (fun _ => 0)))), (q20, .inl (ar 3, 90, .inl (fun _ => 0)))] := hD
  refine lv_aload_n hx hb d_Mo_init_172 rfl (lv_at hl 0 rfl) ?_
  refine lv_bipush (v := 90) hx hb d_Mo_init_173 (by decide) ?_
  refine x_newa (D := (dC, dI)) (ar := ar) (atype := .boolean) hx hb (hts _ k_1103) (ty := .boolean) rfl hK hP hD hS hA (N' := 90) (a0 := (90, .inl (fun _ => 0))) (fun _ => rfl) (by decide) (by decide) (by decide) (Nat.le_of_ble_eq_true rfl) (Nat.le_of_ble_eq_true rfl) 3 rfl (by decide) d_Mo_init_175 (fun q21 H hP hD hS => ?_)
  have hP : va_P (dC, dI) x_cl [(h0, .inr (6, [.ref q1, .ref q2, .ref q3, .ref q4, .int 0, .int (-1), .int 0, .int 0, .int 0, .int 0, .int 0, .ref q5, .ref q6, .ref q7, .ref q8, .ref q9, .ref q10, .ref q11, .int 0, .ref q12, .ref q13, .ref q14, .ref q15, .ref q16, .ref q17, .ref q18, .ref q19, .ref q20, .null, .int 0, .int 0, .int 0, .int 0, .int 0, .long 0, .null, .null, .null, .null, .null, .null, .null, .int 0, .int 0, .int 0])), (q1, .inl (ar 0, 72, .inl (fun _ => 0))), (q2, .inl (ar 0, 1200, .inl (fun _ => 0))), (q3, .inl (ar 0, 1200, .inl (fun _ => 0))), (q4, .inl (ar 0, 6, .inl (fun _ => 0))), (q5, .inl (ar 0, 80, .inl (fun _ => 0))), (q6, .inl (ar 0, 80, .inl (fun _ => 0))), (q7, .inl (ar 0, 80, .inl (fun _ => 0))), (q8, .inl (ar 0, 320, .inl (fun _ => 0))), (q9, .inl (ar 0, 40, .inl (fun _ => 0))), (q10, .inl (ar 0, 40, .inl (fun _ => 0))), (q11, .inl (ar 0, 8, .inl (fun _ => 0))), (q12, .inl (ar 3, 8, .inl (fun _ => 0))), (q13, .inl (ar 0, 90, .inl (fun _ => 0))), (q14, .inl (ar 0, 90, .inl (fun _ => 0))), (q15, .inl (ar 0, 90, .inl (fun _ => 0))), (q16, .inl (ar 0, 90, .inl (fun _ => 0))), (q17, .inl (ar 0, 90, .inl (fun _ => 0))), (q18, .inl (ar 0, 80, .inl (fun _ => 0))), (q19, .inl (ar 2, 90, .inr (.inl (fun _ => 0)))), (q20, .inl (ar 3, 90, .inl (fun _ => 0))), (q21, .inl (ar 3, 90, .inl (fun _ => 0)))] H := hP
  have hD : va_D A [(h0, .inr (6, [.ref q1, .ref q2, .ref q3, .ref q4, .int 0, .int (-1), .int 0, .int 0, .int 0, .int 0, .int 0, .ref q5, .ref q6, .ref q7, .ref q8, .ref q9, .ref q10, .ref q11, .int 0, .ref q12, .ref q13, .ref q14, .ref q15, .ref q16, .ref q17, .ref q18, .ref q19, .ref q20, .null, .int 0, .int 0, .int 0, .int 0, .int 0, .long 0, .null, .null, .null, .null, .null, .null, .null, .int 0, .int 0, .int 0])), (q1, .inl (ar 0, 72, .inl (fun _ => 0))), (q2, .inl (ar 0, 1200, .inl (fun _ => 0))), (q3, .inl (ar 0, 1200, .inl (fun _ => 0))), (q4, .inl (ar 0, 6, .inl (fun _ => 0))), (q5, .inl (ar 0, 80, .inl (fun _ => 0))), (q6, .inl (ar 0, 80, .inl (fun _ => 0))), (q7, .inl (ar 0, 80, .inl (fun _ => 0))), (q8, .inl (ar 0, 320, .inl (fun _ => 0))), (q9, .inl (ar 0, 40, .inl (fun _ => 0))), (q10, .inl (ar 0, 40, .inl (fun _ => 0))), (q11, .inl (ar 0, 8, .inl (fun _ => 0))), (q12, .inl (ar 3, 8, .inl (fun _ => 0))), (q13, .inl (ar 0, 90, .inl (fun _ => 0))), (q14, .inl (ar 0, 90, .inl (fun _ => 0))), (q15, .inl (ar 0, 90, .inl (fun _ => 0))), (q16, .inl (ar 0, 90, .inl (fun _ => 0))), (q17, .inl (ar 0, 90, .inl (fun _ => 0))), (q18, .inl (ar 0, 80, .inl (fun _ => 0))), (q19, .inl (ar 2, 90, .inr (.inl (fun _ => 0)))), (q20, .inl (ar 3, 90, .inl (fun _ => 0))), (q21, .inl (ar 3, 90, .inl (fun _ => 0)))] := hD
  refine W.widen (k := 21) (n := 3934) (Nat.le_of_ble_eq_true rfl) (Nat.le_of_ble_eq_true rfl) ?_
  refine va_putF (D := (dC, dI)) (ci := 6) (v := .ref q21) (ty := (.array .boolean)) (C := "ChannelMachineModel") (T := F_Mo) (N := 45) hx hb hts i_Mo t_Mo t_Mo_ok n_Mo hown hK hP hD hS 0 rfl rfl 28 (by decide) (hts _ k_995) (fun _ h9 => h9) rfl hin rfl (by decide +kernel) rfl rfl (Nat.le_of_ble_eq_true rfl) d_Mo_init_177 (fun H locs hP hD hS => ?_)
  have hP : va_P (dC, dI) x_cl [(h0, .inr (6, [.ref q1, .ref q2, .ref q3, .ref q4, .int 0, .int (-1), .int 0, .int 0, .int 0, .int 0, .int 0, .ref q5, .ref q6, .ref q7, .ref q8, .ref q9, .ref q10, .ref q11, .int 0, .ref q12, .ref q13, .ref q14, .ref q15, .ref q16, .ref q17, .ref q18, .ref q19, .ref q20, .ref q21, .int 0, .int 0, .int 0, .int 0, .int 0, .long 0, .null, .null, .null, .null, .null, .null, .null, .int 0, .int 0, .int 0])), (q1, .inl (ar 0, 72, .inl (fun _ => 0))), (q2, .inl (ar 0, 1200, .inl (fun _ => 0))), (q3, .inl (ar 0, 1200, .inl (fun _ => 0))), (q4, .inl (ar 0, 6, .inl (fun _ => 0))), (q5, .inl (ar 0, 80, .inl (fun _ => 0))), (q6, .inl (ar 0, 80, .inl (fun _ => 0))), (q7, .inl (ar 0, 80, .inl (fun _ => 0))), (q8, .inl (ar 0, 320, .inl (fun _ => 0))), (q9, .inl (ar 0, 40, .inl (fun _ => 0))), (q10, .inl (ar 0, 40, .inl (fun _ => 0))), (q11, .inl (ar 0, 8, .inl (fun _ => 0))), (q12, .inl (ar 3, 8, .inl (fun _ => 0))), (q13, .inl (ar 0, 90, .inl (fun _ => 0))), (q14, .inl (ar 0, 90, .inl (fun _ => 0))), (q15, .inl (ar 0, 90, .inl (fun _ => 0))), (q16, .inl (ar 0, 90, .inl (fun _ => 0))), (q17, .inl (ar 0, 90, .inl (fun _ => 0))), (q18, .inl (ar 0, 80, .inl (fun _ => 0))), (q19, .inl (ar 2, 90, .inr (.inl (fun _ => 0)))), (q20, .inl (ar 3, 90, .inl (fun _ => 0))), (q21, .inl (ar 3, 90, .inl (fun _ => 0)))] H := hP
  have hD : va_D A [(h0, .inr (6, [.ref q1, .ref q2, .ref q3, .ref q4, .int 0, .int (-1), .int 0, .int 0, .int 0, .int 0, .int 0, .ref q5, .ref q6, .ref q7, .ref q8, .ref q9, .ref q10, .ref q11, .int 0, .ref q12, .ref q13, .ref q14, .ref q15, .ref q16, .ref q17, .ref q18, .ref q19, .ref q20, .ref q21, .int 0, .int 0, .int 0, .int 0, .int 0, .long 0, .null, .null, .null, .null, .null, .null, .null, .int 0, .int 0, .int 0])), (q1, .inl (ar 0, 72, .inl (fun _ => 0))), (q2, .inl (ar 0, 1200, .inl (fun _ => 0))), (q3, .inl (ar 0, 1200, .inl (fun _ => 0))), (q4, .inl (ar 0, 6, .inl (fun _ => 0))), (q5, .inl (ar 0, 80, .inl (fun _ => 0))), (q6, .inl (ar 0, 80, .inl (fun _ => 0))), (q7, .inl (ar 0, 80, .inl (fun _ => 0))), (q8, .inl (ar 0, 320, .inl (fun _ => 0))), (q9, .inl (ar 0, 40, .inl (fun _ => 0))), (q10, .inl (ar 0, 40, .inl (fun _ => 0))), (q11, .inl (ar 0, 8, .inl (fun _ => 0))), (q12, .inl (ar 3, 8, .inl (fun _ => 0))), (q13, .inl (ar 0, 90, .inl (fun _ => 0))), (q14, .inl (ar 0, 90, .inl (fun _ => 0))), (q15, .inl (ar 0, 90, .inl (fun _ => 0))), (q16, .inl (ar 0, 90, .inl (fun _ => 0))), (q17, .inl (ar 0, 90, .inl (fun _ => 0))), (q18, .inl (ar 0, 80, .inl (fun _ => 0))), (q19, .inl (ar 2, 90, .inr (.inl (fun _ => 0)))), (q20, .inl (ar 3, 90, .inl (fun _ => 0))), (q21, .inl (ar 3, 90, .inl (fun _ => 0)))] := hD
  refine lv_aload_n hx hb d_Mo_init_180 rfl (lv_at hl 0 rfl) ?_
  refine lv_iconst (v := (-1)) hx hb d_Mo_init_181 (by decide) ?_
  refine va_put (D := (dC, dI)) (ci := 6) (v := .int (-1)) (ty := .int) (C := "ChannelMachineModel") (T := F_Mo) (N := 45) hx hb hts i_Mo t_Mo t_Mo_ok n_Mo hown hK hP hD hS 0 rfl rfl 30 (by decide) (hts _ k_997) (fun _ h9 => h9) rfl (by decide +kernel) rfl rfl (Nat.le_of_ble_eq_true rfl) d_Mo_init_182 (fun H locs hP hD hS => ?_)
  have hP : va_P (dC, dI) x_cl [(h0, .inr (6, [.ref q1, .ref q2, .ref q3, .ref q4, .int 0, .int (-1), .int 0, .int 0, .int 0, .int 0, .int 0, .ref q5, .ref q6, .ref q7, .ref q8, .ref q9, .ref q10, .ref q11, .int 0, .ref q12, .ref q13, .ref q14, .ref q15, .ref q16, .ref q17, .ref q18, .ref q19, .ref q20, .ref q21, .int 0, .int (-1), .int 0, .int 0, .int 0, .long 0, .null, .null, .null, .null, .null, .null, .null, .int 0, .int 0, .int 0])), (q1, .inl (ar 0, 72, .inl (fun _ => 0))), (q2, .inl (ar 0, 1200, .inl (fun _ => 0))), (q3, .inl (ar 0, 1200, .inl (fun _ => 0))), (q4, .inl (ar 0, 6, .inl (fun _ => 0))), (q5, .inl (ar 0, 80, .inl (fun _ => 0))), (q6, .inl (ar 0, 80, .inl (fun _ => 0))), (q7, .inl (ar 0, 80, .inl (fun _ => 0))), (q8, .inl (ar 0, 320, .inl (fun _ => 0))), (q9, .inl (ar 0, 40, .inl (fun _ => 0))), (q10, .inl (ar 0, 40, .inl (fun _ => 0))), (q11, .inl (ar 0, 8, .inl (fun _ => 0))), (q12, .inl (ar 3, 8, .inl (fun _ => 0))), (q13, .inl (ar 0, 90, .inl (fun _ => 0))), (q14, .inl (ar 0, 90, .inl (fun _ => 0))), (q15, .inl (ar 0, 90, .inl (fun _ => 0))), (q16, .inl (ar 0, 90, .inl (fun _ => 0))), (q17, .inl (ar 0, 90, .inl (fun _ => 0))), (q18, .inl (ar 0, 80, .inl (fun _ => 0))), (q19, .inl (ar 2, 90, .inr (.inl (fun _ => 0)))), (q20, .inl (ar 3, 90, .inl (fun _ => 0))), (q21, .inl (ar 3, 90, .inl (fun _ => 0)))] H := hP
  have hD : va_D A [(h0, .inr (6, [.ref q1, .ref q2, .ref q3, .ref q4, .int 0, .int (-1), .int 0, .int 0, .int 0, .int 0, .int 0, .ref q5, .ref q6, .ref q7, .ref q8, .ref q9, .ref q10, .ref q11, .int 0, .ref q12, .ref q13, .ref q14, .ref q15, .ref q16, .ref q17, .ref q18, .ref q19, .ref q20, .ref q21, .int 0, .int (-1), .int 0, .int 0, .int 0, .long 0, .null, .null, .null, .null, .null, .null, .null, .int 0, .int 0, .int 0])), (q1, .inl (ar 0, 72, .inl (fun _ => 0))), (q2, .inl (ar 0, 1200, .inl (fun _ => 0))), (q3, .inl (ar 0, 1200, .inl (fun _ => 0))), (q4, .inl (ar 0, 6, .inl (fun _ => 0))), (q5, .inl (ar 0, 80, .inl (fun _ => 0))), (q6, .inl (ar 0, 80, .inl (fun _ => 0))), (q7, .inl (ar 0, 80, .inl (fun _ => 0))), (q8, .inl (ar 0, 320, .inl (fun _ => 0))), (q9, .inl (ar 0, 40, .inl (fun _ => 0))), (q10, .inl (ar 0, 40, .inl (fun _ => 0))), (q11, .inl (ar 0, 8, .inl (fun _ => 0))), (q12, .inl (ar 3, 8, .inl (fun _ => 0))), (q13, .inl (ar 0, 90, .inl (fun _ => 0))), (q14, .inl (ar 0, 90, .inl (fun _ => 0))), (q15, .inl (ar 0, 90, .inl (fun _ => 0))), (q16, .inl (ar 0, 90, .inl (fun _ => 0))), (q17, .inl (ar 0, 90, .inl (fun _ => 0))), (q18, .inl (ar 0, 80, .inl (fun _ => 0))), (q19, .inl (ar 2, 90, .inr (.inl (fun _ => 0)))), (q20, .inl (ar 3, 90, .inl (fun _ => 0))), (q21, .inl (ar 3, 90, .inl (fun _ => 0)))] := hD
  refine lv_aload_n hx hb d_Mo_init_185 rfl (lv_at hl 0 rfl) ?_
  refine lv_bipush (v := 6) hx hb d_Mo_init_186 (by decide) ?_
  refine x_newa (D := (dC, dI)) (ar := ar) (atype := .int) hx hb (hts _ k_76) (ty := .int) rfl hK hP hD hS hA (N' := 6) (a0 := (6, .inl (fun _ => 0))) (fun _ => rfl) (by decide) (by decide) (by decide) (Nat.le_of_ble_eq_true rfl) (Nat.le_of_ble_eq_true rfl) 0 rfl (by decide) d_Mo_init_188 (fun q22 H hP hD hS => ?_)
  have hP : va_P (dC, dI) x_cl [(h0, .inr (6, [.ref q1, .ref q2, .ref q3, .ref q4, .int 0, .int (-1), .int 0, .int 0, .int 0, .int 0, .int 0, .ref q5, .ref q6, .ref q7, .ref q8, .ref q9, .ref q10, .ref q11, .int 0, .ref q12, .ref q13, .ref q14, .ref q15, .ref q16, .ref q17, .ref q18, .ref q19, .ref q20, .ref q21, .int 0, .int (-1), .int 0, .int 0, .int 0, .long 0, .null, .null, .null, .null, .null, .null, .null, .int 0, .int 0, .int 0])), (q1, .inl (ar 0, 72, .inl (fun _ => 0))), (q2, .inl (ar 0, 1200, .inl (fun _ => 0))), (q3, .inl (ar 0, 1200, .inl (fun _ => 0))), (q4, .inl (ar 0, 6, .inl (fun _ => 0))), (q5, .inl (ar 0, 80, .inl (fun _ => 0))), (q6, .inl (ar 0, 80, .inl (fun _ => 0))), (q7, .inl (ar 0, 80, .inl (fun _ => 0))), (q8, .inl (ar 0, 320, .inl (fun _ => 0))), (q9, .inl (ar 0, 40, .inl (fun _ => 0))), (q10, .inl (ar 0, 40, .inl (fun _ => 0))), (q11, .inl (ar 0, 8, .inl (fun _ => 0))), (q12, .inl (ar 3, 8, .inl (fun _ => 0))), (q13, .inl (ar 0, 90, .inl (fun _ => 0))), (q14, .inl (ar 0, 90, .inl (fun _ => 0))), (q15, .inl (ar 0, 90, .inl (fun _ => 0))), (q16, .inl (ar 0, 90, .inl (fun _ => 0))), (q17, .inl (ar 0, 90, .inl (fun _ => 0))), (q18, .inl (ar 0, 80, .inl (fun _ => 0))), (q19, .inl (ar 2, 90, .inr (.inl (fun _ => 0)))), (q20, .inl (ar 3, 90, .inl (fun _ => 0))), (q21, .inl (ar 3, 90, .inl (fun _ => 0))), (q22, .inl (ar 0, 6, .inl (fun _ => 0)))] H := hP
  have hD : va_D A [(h0, .inr (6, [.ref q1, .ref q2, .ref q3, .ref q4, .int 0, .int (-1), .int 0, .int 0, .int 0, .int 0, .int 0, .ref q5, .ref q6, .ref q7, .ref q8, .ref q9, .ref q10, .ref q11, .int 0, .ref q12, .ref q13, .ref q14, .ref q15, .ref q16, .ref q17, .ref q18, .ref q19, .ref q20, .ref q21, .int 0, .int (-1), .int 0, .int 0, .int 0, .long 0, .null, .null, .null, .null, .null, .null, .null, .int 0, .int 0, .int 0])), (q1, .inl (ar 0, 72, .inl (fun _ => 0))), (q2, .inl (ar 0, 1200, .inl (fun _ => 0))), (q3, .inl (ar 0, 1200, .inl (fun _ => 0))), (q4, .inl (ar 0, 6, .inl (fun _ => 0))), (q5, .inl (ar 0, 80, .inl (fun _ => 0))), (q6, .inl (ar 0, 80, .inl (fun _ => 0))), (q7, .inl (ar 0, 80, .inl (fun _ => 0))), (q8, .inl (ar 0, 320, .inl (fun _ => 0))), (q9, .inl (ar 0, 40, .inl (fun _ => 0))), (q10, .inl (ar 0, 40, .inl (fun _ => 0))), (q11, .inl (ar 0, 8, .inl (fun _ => 0))), (q12, .inl (ar 3, 8, .inl (fun _ => 0))), (q13, .inl (ar 0, 90, .inl (fun _ => 0))), (q14, .inl (ar 0, 90, .inl (fun _ => 0))), (q15, .inl (ar 0, 90, .inl (fun _ => 0))), (q16, .inl (ar 0, 90, .inl (fun _ => 0))), (q17, .inl (ar 0, 90, .inl (fun _ => 0))), (q18, .inl (ar 0, 80, .inl (fun _ => 0))), (q19, .inl (ar 2, 90, .inr (.inl (fun _ => 0)))), (q20, .inl (ar 3, 90, .inl (fun _ => 0))), (q21, .inl (ar 3, 90, .inl (fun _ => 0))), (q22, .inl (ar 0, 6, .inl (fun _ => 0)))] := hD
  refine W.widen (k := 22) (n := 3940) (Nat.le_of_ble_eq_true rfl) (Nat.le_of_ble_eq_true rfl) ?_
  refine va_putF (D := (dC, dI)) (ci := 6) (v := .ref q22) (ty := (.array .int)) (C := "ChannelMachineModel") (T := F_Mo) (N := 45) hx hb hts i_Mo t_Mo t_Mo_ok n_Mo hown hK hP hD hS 0 rfl rfl 35 (by decide) (hts _ k_1002) (fun _ h9 => h9) rfl hin rfl (by decide +kernel) rfl rfl (Nat.le_of_ble_eq_true rfl) d_Mo_init_190 (fun H locs hP hD hS => ?_)
  have hP : va_P (dC, dI) x_cl [(h0, .inr (6, [.ref q1, .ref q2, .ref q3, .ref q4, .int 0, .int (-1), .int 0, .int 0, .int 0, .int 0, .int 0, .ref q5, .ref q6, .ref q7, .ref q8, .ref q9, .ref q10, .ref q11, .int 0, .ref q12, .ref q13, .ref q14, .ref q15, .ref q16, .ref q17, .ref q18, .ref q19, .ref q20, .ref q21, .int 0, .int (-1), .int 0, .int 0, .int 0, .long 0, .ref q22, .null, .null, .null, .null, .null, .null, .int 0, .int 0, .int 0])), (q1, .inl (ar 0, 72, .inl (fun _ => 0))), (q2, .inl (ar 0, 1200, .inl (fun _ => 0))), (q3, .inl (ar 0, 1200, .inl (fun _ => 0))), (q4, .inl (ar 0, 6, .inl (fun _ => 0))), (q5, .inl (ar 0, 80, .inl (fun _ => 0))), (q6, .inl (ar 0, 80, .inl (fun _ => 0))), (q7, .inl (ar 0, 80, .inl (fun _ => 0))), (q8, .inl (ar 0, 320, .inl (fun _ => 0))), (q9, .inl (ar 0, 40, .inl (fun _ => 0))), (q10, .inl (ar 0, 40, .inl (fun _ => 0))), (q11, .inl (ar 0, 8, .inl (fun _ => 0))), (q12, .inl (ar 3, 8, .inl (fun _ => 0))), (q13, .inl (ar 0, 90, .inl (fun _ => 0))), (q14, .inl (ar 0, 90, .inl (fun _ => 0))), (q15, .inl (ar 0, 90, .inl (fun _ => 0))), (q16, .inl (ar 0, 90, .inl (fun _ => 0))), (q17, .inl (ar 0, 90, .inl (fun _ => 0))), (q18, .inl (ar 0, 80, .inl (fun _ => 0))), (q19, .inl (ar 2, 90, .inr (.inl (fun _ => 0)))), (q20, .inl (ar 3, 90, .inl (fun _ => 0))), (q21, .inl (ar 3, 90, .inl (fun _ => 0))), (q22, .inl (ar 0, 6, .inl (fun _ => 0)))] H := hP
  have hD : va_D A [(h0, .inr (6, [.ref q1, .ref q2, .ref q3, .ref q4, .int 0, .int (-1), .int 0, .int 0, .int 0, .int 0, .int 0, .ref q5, .ref q6, .ref q7, .ref q8, .ref q9, .ref q10, .ref q11, .int 0, .ref q12, .ref q13, .ref q14, .ref q15, .ref q16, .ref q17, .ref q18, .ref q19, .ref q20, .ref q21, .int 0, .int (-1), .int 0, .int 0, .int 0, .long 0, .ref q22, .null, .null, .null, .null, .null, .null, .int 0, .int 0, .int 0])), (q1, .inl (ar 0, 72, .inl (fun _ => 0))), (q2, .inl (ar 0, 1200, .inl (fun _ => 0))), (q3, .inl (ar 0, 1200, .inl (fun _ => 0))), (q4, .inl (ar 0, 6, .inl (fun _ => 0))), (q5, .inl (ar 0, 80, .inl (fun _ => 0))), (q6, .inl (ar 0, 80, .inl (fun _ => 0))), (q7, .inl (ar 0, 80, .inl (fun _ => 0))), (q8, .inl (ar 0, 320, .inl (fun _ => 0))), (q9, .inl (ar 0, 40, .inl (fun _ => 0))), (q10, .inl (ar 0, 40, .inl (fun _ => 0))), (q11, .inl (ar 0, 8, .inl (fun _ => 0))), (q12, .inl (ar 3, 8, .inl (fun _ => 0))), (q13, .inl (ar 0, 90, .inl (fun _ => 0))), (q14, .inl (ar 0, 90, .inl (fun _ => 0))), (q15, .inl (ar 0, 90, .inl (fun _ => 0))), (q16, .inl (ar 0, 90, .inl (fun _ => 0))), (q17, .inl (ar 0, 90, .inl (fun _ => 0))), (q18, .inl (ar 0, 80, .inl (fun _ => 0))), (q19, .inl (ar 2, 90, .inr (.inl (fun _ => 0)))), (q20, .inl (ar 3, 90, .inl (fun _ => 0))), (q21, .inl (ar 3, 90, .inl (fun _ => 0))), (q22, .inl (ar 0, 6, .inl (fun _ => 0)))] := hD
  refine lv_aload_n hx hb d_Mo_init_193 rfl (lv_at hl 0 rfl) ?_
  refine lv_bipush (v := 6) hx hb d_Mo_init_194 (by decide) ?_
  refine x_newa (D := (dC, dI)) (ar := ar) (atype := .int) hx hb (hts _ k_76) (ty := .int) rfl hK hP hD hS hA (N' := 6) (a0 := (6, .inl (fun _ => 0))) (fun _ => rfl) (by decide) (by decide) (by decide) (Nat.le_of_ble_eq_true rfl) (Nat.le_of_ble_eq_true rfl) 0 rfl (by decide) d_Mo_init_196 (fun q23 H hP hD hS => ?_)
  have hP : va_P (dC, dI) x_cl [(h0, .inr (6, [.ref q1, .ref q2, .ref q3, .ref q4, .int 0, .int (-1), .int 0, .int 0, .int 0, .int 0, .int 0, .ref q5, .ref q6, .ref q7, .ref q8, .ref q9, .ref q10, .ref q11, .int 0, .ref q12, .ref q13, .ref q14, .ref q15, .ref q16, .ref q17, .ref q18, .ref q19, .ref q20, .ref q21, .int 0, .int (-1), .int 0, .int 0, .int 0, .long 0, .ref q22, .null, .null, .null, .null, .null, .null, .int 0, .int 0, .int 0])), (q1, .inl (ar 0, 72, .inl (fun _ => 0))), (q2, .inl (ar 0, 1200, .inl (fun _ => 0))), (q3, .inl (ar 0, 1200, .inl (fun _ => 0))), (q4, .inl (ar 0, 6, .inl (fun _ => 0))), (q5, .inl (ar 0, 80, .inl (fun _ => 0))), (q6, .inl (ar 0, 80, .inl (fun _ => 0))), (q7, .inl (ar 0, 80, .inl (fun _ => 0))), (q8, .inl (ar 0, 320, .inl (fun _ => 0))), (q9, .inl (ar 0, 40, .inl (fun _ => 0))), (q10, .inl (ar 0, 40, .inl (fun _ => 0))), (q11, .inl (ar 0, 8, .inl (fun _ => 0))), (q12, .inl (ar 3, 8, .inl (fun _ => 0))), (q13, .inl (ar 0, 90, .inl (fun _ => 0))), (q14, .inl (ar 0, 90, .inl (fun _ => 0))), (q15, .inl (ar 0, 90, .inl (fun _ => 0))), (q16, .inl (ar 0, 90, .inl (fun _ => 0))), (q17, .inl (ar 0, 90, .inl (fun _ => 0))), (q18, .inl (ar 0, 80, .inl (fun _ => 0))), (q19, .inl (ar 2, 90, .inr (.inl (fun _ => 0)))), (q20, .inl (ar 3, 90, .inl (fun _ => 0))), (q21, .inl (ar 3, 90, .inl (fun _ => 0))), (q22, .inl (ar 0, 6, .inl (fun _ => 0))), (q23, .inl (ar 0, 6, .inl (fun _ => 0)))] H := hP
  have hD : va_D A [(h0, .inr (6, [.ref q1, .ref q2, .ref q3, .ref q4, .int 0, .int (-1), .int 0, .int 0, .int 0, .int 0, .int 0, .ref q5, .ref q6, .ref q7, .ref q8, .ref q9, .ref q10, .ref q11, .int 0, .ref q12, .ref q13, .ref q14, .ref q15, .ref q16, .ref q17, .ref q18, .ref q19, .ref q20, .ref q21, .int 0, .int (-1), .int 0, .int 0, .int 0, .long 0, .ref q22, .null, .null, .null, .null, .null, .null, .int 0, .int 0, .int 0])), (q1, .inl (ar 0, 72, .inl (fun _ => 0))), (q2, .inl (ar 0, 1200, .inl (fun _ => 0))), (q3, .inl (ar 0, 1200, .inl (fun _ => 0))), (q4, .inl (ar 0, 6, .inl (fun _ => 0))), (q5, .inl (ar 0, 80, .inl (fun _ => 0))), (q6, .inl (ar 0, 80, .inl (fun _ => 0))), (q7, .inl (ar 0, 80, .inl (fun _ => 0))), (q8, .inl (ar 0, 320, .inl (fun _ => 0))), (q9, .inl (ar 0, 40, .inl (fun _ => 0))), (q10, .inl (ar 0, 40, .inl (fun _ => 0))), (q11, .inl (ar 0, 8, .inl (fun _ => 0))), (q12, .inl (ar 3, 8, .inl (fun _ => 0))), (q13, .inl (ar 0, 90, .inl (fun _ => 0))), (q14, .inl (ar 0, 90, .inl (fun _ => 0))), (q15, .inl (ar 0, 90, .inl (fun _ => 0))), (q16, .inl (ar 0, 90, .inl (fun _ => 0))), (q17, .inl (ar 0, 90, .inl (fun _ => 0))), (q18, .inl (ar 0, 80, .inl (fun _ => 0))), (q19, .inl (ar 2, 90, .inr (.inl (fun _ => 0)))), (q20, .inl (ar 3, 90, .inl (fun _ => 0))), (q21, .inl (ar 3, 90, .inl (fun _ => 0))), (q22, .inl (ar 0, 6, .inl (fun _ => 0))), (q23, .inl (ar 0, 6, .inl (fun _ => 0)))] := hD
  refine W.widen (k := 23) (n := 3946) (Nat.le_of_ble_eq_true rfl) (Nat.le_of_ble_eq_true rfl) ?_
  refine va_putF (D := (dC, dI)) (ci := 6) (v := .ref q23) (ty := (.array .int)) (C := "ChannelMachineModel") (T := F_Mo) (N := 45) hx hb hts i_Mo t_Mo t_Mo_ok n_Mo hown hK hP hD hS 0 rfl rfl 36 (by decide) (hts _ k_1003) (fun _ h9 => h9) rfl hin rfl (by decide +kernel) rfl rfl (Nat.le_of_ble_eq_true rfl) d_Mo_init_198 (fun H locs hP hD hS => ?_)
  have hP : va_P (dC, dI) x_cl [(h0, .inr (6, [.ref q1, .ref q2, .ref q3, .ref q4, .int 0, .int (-1), .int 0, .int 0, .int 0, .int 0, .int 0, .ref q5, .ref q6, .ref q7, .ref q8, .ref q9, .ref q10, .ref q11, .int 0, .ref q12, .ref q13, .ref q14, .ref q15, .ref q16, .ref q17, .ref q18, .ref q19, .ref q20, .ref q21, .int 0, .int (-1), .int 0, .int 0, .int 0, .long 0, .ref q22, .ref q23, .null, .null, .null, .null, .null, .int 0, .int 0, .int 0])), (q1, .inl (ar 0, 72, .inl (fun _ => 0))), (q2, .inl (ar 0, 1200, .inl (fun _ => 0))), (q3, .inl (ar 0, 1200, .inl (fun _ => 0))), (q4, .inl (ar 0, 6, .inl (fun _ => 0))), (q5, .inl (ar 0, 80, .inl (fun _ => 0))), (q6, .inl (ar 0, 80, .inl (fun _ => 0))), (q7, .inl (ar 0, 80, .inl (fun _ => 0))), (q8, .inl (ar 0, 320, .inl (fun _ => 0))), (q9, .inl (ar 0, 40, .inl (fun _ => 0))), (q10, .inl (ar 0, 40, .inl (fun _ => 0))), (q11, .inl (ar 0, 8, .inl (fun _ => 0))), (q12, .inl (ar 3, 8, .inl (fun _ => 0))), (q13, .inl (ar 0, 90, .inl (fun _ => 0))), (q14, .inl (ar 0, 90, .inl (fun _ => 0))), (q15, .inl (ar 0, 90, .inl (fun _ => 0))), (q16, .inl (ar 0, 90, .inl (fun _ => 0))), (q17, .inl (ar 0, 90, .inl (fun _ => 0))), (q18, .inl (ar 0, 80, .inl (fun _ => 0))), (q19, .inl (ar 2, 90, .inr (.inl (fun _ => 0)))), (q20, .inl (ar 3, 90, .inl (fun _ => 0))), (q21, .inl (ar 3, 90, .inl (fun _ => 0))), (q22, .inl (ar 0, 6, .inl (fun _ => 0))), (q23, .inl (ar 0, 6, .inl (fun _ => 0)))] H := hP
  have hD : va_D A [(h0, .inr (6, [.ref q1, .ref q2, .ref q3, .ref q4, .int 0, .int (-1), .int 0, .int 0, .int 0, .int 0, .int 0, .ref q5, .ref q6, .ref q7, .ref q8, .ref q9, .ref q10, .ref q11, .int 0, .ref q12, .ref q13, .ref q14, .ref q15, .ref q16, .ref q17, .ref q18, .ref q19, .ref q20, .ref q21, .int 0, .int (-1), .int 0, .int 0, .int 0, .long 0, .ref q22, .ref q23, .null, .null, .null, .null, .null, .int 0, .int 0, .int 0])), (q1, .inl (ar 0, 72, .inl (fun _ => 0))), (q2, .inl (ar 0, 1200, .inl (fun _ => 0))), (q3, .inl (ar 0, 1200, .inl (fun _ => 0))), (q4, .inl (ar 0, 6, .inl (fun _ => 0))), (q5, .inl (ar 0, 80, .inl (fun _ => 0))), (q6, .inl (ar 0, 80, .inl (fun _ => 0))), (q7, .inl (ar 0, 80, .inl (fun _ => 0))), (q8, .inl (ar 0, 320, .inl (fun _ => 0))), (q9, .inl (ar 0, 40, .inl (fun _ => 0))), (q10, .inl (ar 0, 40, .inl (fun _ => 0))), (q11, .inl (ar 0, 8, .inl (fun _ => 0))), (q12, .inl (ar 3, 8, .inl (fun _ => 0))), (q13, .inl (ar 0, 90, .inl (fun _ => 0))), (q14, .inl (ar 0, 90, .inl (fun _ => 0))), (q15, .inl (ar 0, 90, .inl (fun _ => 0))), (q16, .inl (ar 0, 90, .inl (fun _ => 0))), (q17, .inl (ar 0, 90, .inl (fun _ => 0))), (q18, .inl (ar 0, 80, .inl (fun _ => 0))), (q19, .inl (ar 2, 90, .inr (.inl (fun _ => 0)))), (q20, .inl (ar 3, 90, .inl (fun _ => 0))), (q21, .inl (ar 3, 90, .inl (fun _ => 0))), (q22, .inl (ar 0, 6, .inl (fun _ => 0))), (q23, .inl (ar 0, 6, .inl (fun _ => 0)))] := hD
  refine lv_aload_n hx hb d_Mo_init_201 rfl (lv_at hl 0 rfl) ?_
  refine lv_bipush (v := 6) hx hb d_Mo_init_202 (by decide) ?_
  refine x_newa (D := (dC, dI)) (ar := ar) (atype := .int) hx hb (hts _ k_76) (ty := .int) rfl hK hP hD hS hA (N' := 6) (a0 := (6, .inl (fun _ => 0))) (fun _ => rfl) (by decide) (by decide) (by decide) (Nat.le_of_ble_eq_true rfl) (Nat.le_of_ble_eq_true rfl) 0 rfl (by decide) d_Mo_init_204 (fun q24 H hP hD hS => ?_)
  have hP : va_P (dC, dI) x_cl [(h0, .inr (6, [.ref q1, .ref q2, .ref q3, .ref q4, .int 0, .int (-1), .int 0, .int 0, .int 0, .int 0, .int 0, .ref q5, .ref q6, .ref q7, .ref q8, .ref q9, .ref q10, .ref q11, .int 0, .ref q12, .ref q13, .ref q14, .ref q15, .ref q16, .ref q17, .ref q18, .ref q19, .ref q20, .ref q21, .int 0, .int (-1), .int 0, .int 0, .int 0, .long 0, .ref q22, .ref q23, .null, .null, .null, .null, .null, .int 0, .int 0, .int 0])), (q1, .inl (ar 0, 72, .inl (fun _ => 0))), (q2, .inl (ar 0, 1200, .inl (fun _ => 0))), (q3, .inl (ar 0, 1200, .inl (fun _ => 0))), (q4, .inl (ar 0, 6, .inl (fun _ => 0))), (q5, .inl (ar 0, 80, .inl (fun _ => 0))), (q6, .inl (ar 0, 80, .inl (fun _ => 0))), (q7, .inl (ar 0, 80, .inl (fun _ => 0))), (q8, .inl (ar 0, 320, .inl (fun _ => 0))), (q9, .inl (ar 0, 40, .inl (fun _ => 0))), (q10, .inl (ar 0, 40, .inl (fun _ => 0))), (q11, .inl (ar 0, 8, .inl (fun _ => 0))), (q12, .inl (ar 3, 8, .inl (fun _ => 0))), (q13, .inl (ar 0, 90, .inl (fun _ => 0))), (q14, .inl (ar 0, 90, .inl (fun _ => 0))), (q15, .inl (ar 0, 90, .inl (fun _ => 0))), (q16, .inl (ar 0, 90, .inl (fun _ => 0))), (q17, .inl (ar 0, 90, .inl (fun _ => 0))), (q18, .inl (ar 0, 80, .inl (fun _ => 0))), (q19, .inl (ar 2, 90, .inr (.inl (fun _ => 0)))), (q20, .inl (ar 3, 90, .inl (fun _ => 0))), (q21, .inl (ar 3, 90, .inl (fun _ => 0))), (q22, .inl (ar 0, 6, .inl (fun _ => 0))), (q23, .inl (ar 0, 6, .inl (fun _ => 0))), (q24, .inl (ar 0, 6, .inl (fun _ => 0)))] H := hP
  have hD : va_D A [(h0, .inr (6, [.ref q1, .ref q2, .ref q3, .ref q4, .int 0, .int (-1), .int 0, .int 0, .int 0, .int 0, .int 0, .ref q5, .ref q6, .ref q7, .ref q8, .ref q9, .ref q10, .ref q11, .int 0, .ref q12, .ref q13, .ref q14, .ref q15, .ref q16, .ref q17, .ref q18, .ref q19, .ref q20, .ref q21, .int 0, .int (-1), .int 0, .int 0, .int 0, .long 0, .ref q22, .ref q23, .null, .null, .null, .null, .null, .int 0, .int 0, .int 0])), (q1, .inl (ar 0, 72, .inl (fun _ => 0))), (q2, .inl (ar 0, 1200, .inl (fun _ => 0))), (q3, .inl (ar 0, 1200, .inl (fun _ => 0))), (q4, .inl (ar 0, 6, .inl (fun _ => 0))), (q5, .inl (ar 0, 80, .inl (fun _ => 0))), (q6, .inl (ar 0, 80, .inl (fun _ => 0))), (q7, .inl (ar 0, 80, .inl (fun _ => 0))), (q8, .inl (ar 0, 320, .inl (fun _ => 0))), (q9, .inl (ar 0, 40, .inl (fun _ => 0))), (q10, .inl (ar 0, 40, .inl (fun _ => 0))), (q11, .inl (ar 0, 8, .inl (fun _ => 0))), (q12, .inl (ar 3, 8, .inl (fun _ => 0))), (q13, .inl (ar 0, 90, .inl (fun _ => 0))), (q14, .inl (ar 0, 90, .inl (fun _ => 0))), (q15, .inl (ar 0, 90, .inl (fun _ => 0))), (q16, .inl (ar 0, 90, .inl (fun _ => 0))), (q17, .inl (ar 0, 90, .inl (fun _ => 0))), (q18, .inl (ar 0, 80, .inl (fun _ => 0))), (q19, .inl (ar 2, 90, .inr (.inl (fun _ => 0)))), (q20, .inl (ar 3, 90, .inl (fun _ => 0))), (q21, .inl (ar 3, 90, .inl (fun _ => 0))), (q22, .inl (ar 0, 6, .inl (fun _ => 0))), (q23, .inl (ar 0, 6, .inl (fun _ => 0))), (q24, .inl (ar 0, 6, .inl (fun _ => 0)))] := hD
  refine W.widen (k := 24) (n := 3952) (Nat.le_of_ble_eq_true rfl) (Nat.le_of_ble_eq_true rfl) ?_
  refine va_putF (D := (dC, dI)) (ci := 6) (v := .ref q24) (ty := (.array .int)) (C := "ChannelMachineModel") (T := F_Mo) (N := 45) hx hb hts i_Mo t_Mo t_Mo_ok n_Mo hown hK hP hD hS 0 rfl rfl 37 (by decide) (hts _ k_1004) (fun _ h9 => h9) rfl hin rfl (by decide +kernel) rfl rfl (Nat.le_of_ble_eq_true rfl) d_Mo_init_206 (fun H locs hP hD hS => ?_)
  have hP : va_P (dC, dI) x_cl [(h0, .inr (6, [.ref q1, .ref q2, .ref q3, .ref q4, .int 0, .int (-1), .int 0, .int 0, .int 0, .int 0, .int 0, .ref q5, .ref q6, .ref q7, .ref q8, .ref q9, .ref q10, .ref q11, .int 0, .ref q12, .ref q13, .ref q14, .ref q15, .ref q16, .ref q17, .ref q18, .ref q19, .ref q20, .ref q21, .int 0, .int (-1), .int 0, .int 0, .int 0, .long 0, .ref q22, .ref q23, .ref q24, .null, .null, .null, .null, .int 0, .int 0, .int 0])), (q1, .inl (ar 0, 72, .inl (fun _ => 0))), (q2, .inl (ar 0, 1200, .inl (fun _ => 0))), (q3, .inl (ar 0, 1200, .inl (fun _ => 0))), (q4, .inl (ar 0, 6, .inl (fun _ => 0))), (q5, .inl (ar 0, 80, .inl (fun _ => 0))), (q6, .inl (ar 0, 80, .inl (fun _ => 0))), (q7, .inl (ar 0, 80, .inl (fun _ => 0))), (q8, .inl (ar 0, 320, .inl (fun _ => 0))), (q9, .inl (ar 0, 40, .inl (fun _ => 0))), (q10, .inl (ar 0, 40, .inl (fun _ => 0))), (q11, .inl (ar 0, 8, .inl (fun _ => 0))), (q12, .inl (ar 3, 8, .inl (fun _ => 0))), (q13, .inl (ar 0, 90, .inl (fun _ => 0))), (q14, .inl (ar 0, 90, .inl (fun _ => 0))), (q15, .inl (ar 0, 90, .inl (fun _ => 0))), (q16, .inl (ar 0, 90, .inl (fun _ => 0))), (q17, .inl (ar 0, 90, .inl (fun _ => 0))), (q18, .inl (ar 0, 80, .inl (fun _ => 0))), (q19, .inl (ar 2, 90, .inr (.inl (fun _ => 0)))), (q20, .inl (ar 3, 90, .inl (fun _ => 0))), (q21, .inl (ar 3, 90, .inl (fun _ => 0))), (q22, .inl (ar 0, 6, .inl (fun _ => 0))), (q23, .inl (ar 0, 6, .inl (fun _ => 0))), (q24, .inl (ar 0, 6, .inl (fun _ => 0)))] H := hP
  have hD : va_D A [(h0, .inr (6, [.ref q1, .ref q2, .ref q3, .ref q4, .int 0, .int (-1), .int 0, .int 0, .int 0, .int 0, .int 0, .ref q5, .ref q6, .ref q7, .ref q8, .ref q9, .ref q10, .ref q11, .int 0, .ref q12, .ref q13, .ref q14, .ref q15, .ref q16, .ref q17, .ref q18, .ref q19, .ref q20, .ref q21, .int 0, .int (-1), .int 0, .int 0, .int 0, .long 0, .ref q22, .ref q23, .ref q24, .null, .null, .null, .null, .int 0, .int 0, .int 0])), (q1, .inl (ar 0, 72, .inl (fun _ => 0))), (q2, .inl (ar 0, 1200, .inl (fun _ => 0))), (q3, .inl (ar 0, 1200, .inl (fun _ => 0))), (q4, .inl (ar 0, 6, .inl (fun _ => 0))), (q5, .inl (ar 0, 80, .inl (fun _ => 0))), (q6, .inl (ar 0, 80, .inl (fun _ => 0))), (q7, .inl (ar 0, 80, .inl (fun _ => 0))), (q8, .inl (ar 0, 320, .inl (fun _ => 0))), (q9, .inl (ar 0, 40, .inl (fun _ => 0))), (q10, .inl (ar 0, 40, .inl (fun _ => 0))), (q11, .inl (ar 0, 8, .inl (fun _ => 0))), (q12, .inl (ar 3, 8, .inl (fun _ => 0))), (q13, .inl (ar 0, 90, .inl (fun _ => 0))), (q14, .inl (ar 0, 90, .inl (fun _ => 0))), (q15, .inl (ar 0, 90, .inl (fun _ => 0))), (q16, .inl (ar 0, 90, .inl (fun _ => 0))), (q17, .inl (ar 0, 90, .inl (fun _ => 0))), (q18, .inl (ar 0, 80, .inl (fun _ => 0))), (q19, .inl (ar 2, 90, .inr (.inl (fun _ => 0)))), (q20, .inl (ar 3, 90, .inl (fun _ => 0))), (q21, .inl (ar 3, 90, .inl (fun _ => 0))), (q22, .inl (ar 0, 6, .inl (fun _ => 0))), (q23, .inl (ar 0, 6, .inl (fun _ => 0))), (q24, .inl (ar 0, 6, .inl (fun _ => 0)))] := hD
  refine lv_aload_n hx hb d_Mo_init_209 rfl (lv_at hl 0 rfl) ?_
  refine lv_bipush (v := 6) hx hb d_Mo_init_210 (by decide) ?_
  refine x_newa (D := (dC, dI)) (ar := ar) (atype := .int) hx hb (hts _ k_76) (ty := .int) rfl hK hP hD hS hA (N' := 6) (a0 := (6, .inl (fun _ => 0))) (fun _ => rfl) (by decide) (by decide) (by decide) (Nat.le_of_ble_eq_true rfl) (Nat.le_of_ble_eq_true rfl) 0 rfl (by decide) d_Mo_init_212 (fun q25 H hP hD hS => ?_)
  have hP : va_P (dC, dI) x_cl [(h0, .inr (6, [.ref q1, .ref q2, .ref q3, .ref q4, .int 0, .int (-1), .int 0, .int 0, .int 0, .int 0, .int 0, .ref q5, .ref q6, .ref q7, .ref q8, .ref q9, .ref q10, .ref q11, .int 0, .ref q12, .ref q13, .ref q14, .ref q15, .ref q16, .ref q17, .ref q18, .ref q19, .ref q20, .ref q21, .int 0, .int (-1), .int 0, .int 0, .int 0, .long 0, .ref q22, .ref q23, .ref q24, .null, .null, .null, .null, .int 0, .int 0, .int 0])), (q1, .inl (ar 0, 72, .inl (fun _ => 0))), (q2, .inl (ar 0, 1200, .inl (fun _ => 0))), (q3, .inl (ar 0, 1200, .inl (fun _ => 0))), (q4, .inl (ar 0, 6, .inl (fun _ => 0))), (q5, .inl (ar 0, 80, .inl (fun _ => 0))), (q6, .inl (ar 0, 80, .inl (fun _ => 0))), (q7, .inl (ar 0, 80, .inl (fun _ => 0))), (q8, .inl (ar 0, 320, .inl (fun _ => 0))), (q9, .inl (ar 0, 40, .inl (fun _ => 0))), (q10, .inl (ar 0, 40, .inl (fun _ => 0))), (q11, .inl (ar 0, 8, .inl (fun _ => 0))), (q12, .inl (ar 3, 8, .inl (fun _ => 0))), (q13, .inl (ar 0, 90, .inl (fun _ => 0))), (q14, .inl (ar 0, 90, .inl (fun _ => 0))), (q15, .inl (ar 0, 90, .inl (fun _ => 0))), (q16, .inl (ar 0, 90, .inl (fun _ => 0))), (q17, .inl (ar 0, 90, .inl (fun _ => 0))), (q18, .inl (ar 0, 80, .inl (fun _ => 0))), (q19, .inl (ar 2, 90, .inr (.inl (fun _ => 0)))), (q20, .inl (ar 3, 90, .inl (fun _ => 0))), (q21, .inl (ar 3, 90, .inl (fun _ => 0))), (q22, .inl (ar 0, 6, .inl (fun _ => 0))), (q23, .inl (ar 0, 6, .inl (fun _ => 0))), (q24, .inl (ar 0, 6, .inl (fun _ => 0))), (q25, .inl (ar 0, 6, .inl (fun _ => 0)))] H := hP
  have hD : va_D A [(h0, .inr (6, [.ref q1, .ref q2, .ref q3, .ref q4, .int 0, .int (-1), .int 0, .int 0, .int 0, .int 0, .int 0, .ref q5, .ref q6, .ref q7, .ref q8, .ref q9, .ref q10, .ref q11, .int 0, .ref q12, .ref q13, .ref q14, .ref q15, .ref q16, .ref q17, .ref q18, .ref q19, .ref q20, .ref q21, .int 0, .int (-1), .int 0, .int 0, .int 0, .long 0, .ref q22, .ref q23, .ref q24, .null, .null, .null, .null, .int 0, .int 0, .int 0])), (q1, .inl (ar 0, 72, .inl (fun _ => 0))), (q2, .inl (ar 0, 1200, .inl (fun _ => 0))), (q3, .inl (ar 0, 1200, .inl (fun _ => 0))), (q4, .inl (ar 0, 6, .inl (fun _ => 0))), (q5, .inl (ar 0, 80, .inl (fun _ => 0))), (q6, .inl (ar 0, 80, .inl (fun _ => 0))), (q7, .inl (ar 0, 80, .inl (fun _ => 0))), (q8, .inl (ar 0, 320, .inl (fun _ => 0))), (q9, .inl (ar 0, 40, .inl (fun _ => 0))), (q10, .inl (ar 0, 40, .inl (fun _ => 0))), (q11, .inl (ar 0, 8, .inl (fun _ => 0))), (q12, .inl (ar 3, 8, .inl (fun _ => 0))), (q13, .inl (ar 0, 90, .inl (fun _ => 0))), (q14, .inl (ar 0, 90, .inl (fun _ => 0))), (q15, .inl (ar 0, 90, .inl (fun _ => 0))), (q16, .inl (ar 0, 90, .inl (fun _ => 0))), (q17, .inl (ar 0, 90, .inl (fun _ => 0))), (q18, .inl (ar 0, 80, .inl (fun _ => 0))), (q19, .inl (ar 2, 90, .inr (.inl (fun _ => 0)))), (q20, .inl (ar 3, 90, .inl (fun _ => 0))), (q21, .inl (ar 3, 90, .inl (fun _ => 0))), (q22, .inl (ar 0, 6, .inl (fun _ => 0))), (q23, .inl (ar 0, 6, .inl (fun _ => 0))), (q24, .inl (ar 0, 6, .inl (fun _ => 0))), (q25, .inl (ar 0, 6, .inl (fun _ => 0)))] := hD
  refine W.widen (k := 25) (n := 3958) (Nat.le_of_ble_eq_true rfl) (Nat.le_of_ble_eq_true rfl) ?_
  refine va_putF (D := (dC, dI)) (ci := 6) (v := .ref q25) (ty := (.array .int)) (C := "ChannelMachineModel") (T := F_Mo) (N := 45) hx hb hts i_Mo t_Mo t_Mo_ok n_Mo hown hK hP hD hS 0 rfl rfl 38 (by decide) (hts _ k_1005) (fun _ h9 => h9) rfl hin rfl (by decide +kernel) rfl rfl (Nat.le_of_ble_eq_true rfl) d_Mo_init_214 (fun H locs hP hD hS => ?_)
  have hP : va_P (dC, dI) x_cl [(h0, .inr (6, [.ref q1, .ref q2, .ref q3, .ref q4, .int 0, .int (-1), .int 0, .int 0, .int 0, .int 0, .int 0, .ref q5, .ref q6, .ref q7, .ref q8, .ref q9, .ref q10, .ref q11, .int 0, .ref q12, .ref q13, .ref q14, .ref q15, .ref q16, .ref q17, .ref q18, .ref q19, .ref q20, .ref q21, .int 0, .int (-1), .int 0, .int 0, .int 0, .long 0, .ref q22, .ref q23, .ref q24, .ref q25, .null, .null, .null, .int 0, .int 0, .int 0])), (q1, .inl (ar 0, 72, .inl (fun _ => 0))), (q2, .inl (ar 0, 1200, .inl (fun _ => 0))), (q3, .inl (ar 0, 1200, .inl (fun _ => 0))), (q4, .inl (ar 0, 6, .inl (fun _ => 0))), (q5, .inl (ar 0, 80, .inl (fun _ => 0))), (q6, .inl (ar 0, 80, .inl (fun _ => 0))), (q7, .inl (ar 0, 80, .inl (fun _ => 0))), (q8, .inl (ar 0, 320, .inl (fun _ => 0))), (q9, .inl (ar 0, 40, .inl (fun _ => 0))), (q10, .inl (ar 0, 40, .inl (fun _ => 0))), (q11, .inl (ar 0, 8, .inl (fun _ => 0))), (q12, .inl (ar 3, 8, .inl (fun _ => 0))), (q13, .inl (ar 0, 90, .inl (fun _ => 0))), (q14, .inl (ar 0, 90, .inl (fun _ => 0))), (q15, .inl (ar 0, 90, .inl (fun _ => 0))), (q16, .inl (ar 0, 90, .inl (fun _ => 0))), (q17, .inl (ar 0, 90, .inl (fun _ => 0))), (q18, .inl (ar 0, 80, .inl (fun _ => 0))), (q19, .inl (ar 2, 90, .inr (.inl (fun _ => 0)))), (q20, .inl (ar 3, 90, .inl (fun _ => 0))), (q21, .inl (ar 3, 90, .inl (fun _ => 0))), (q22, .inl (ar 0, 6, .inl (fun _ => 0))), (q23, .inl (ar 0, 6, .inl (fun _ => 0))), (q24, .inl (ar 0, 6, .inl (fun _ => 0))), (q25, .inl (ar 0, 6, .inl (fun _ => 0)))] H := hP
  have hD : va_D A [(h0, .inr (6, [.ref q1, .ref q2, .ref q3, .ref q4, .int 0, .int (-1), .int 0, .int 0, .int 0, .int 0, .int 0, .ref q5, .ref q6, .ref q7, .ref q8, .ref q9, .ref q10, .ref q11, .int 0, .ref q12, .ref q13, .ref q14, .ref q15, .ref q16, .ref q17, .ref q18, .ref q19, .ref q20, .ref q21, .int 0, .int (-1), .int 0, .int 0, .int 0, .long 0, .ref q22, .ref q23, .ref q24, .ref q25, .null, .null, .null, .int 0, .int 0, .int 0])), (q1, .inl (ar 0, 72, .inl (fun _ => 0))), (q2, .inl (ar 0, 1200, .inl (fun _ => 0))), (q3, .inl (ar 0, 1200, .inl (fun _ => 0))), (q4, .inl (ar 0, 6, .inl (fun _ => 0))), (q5, .inl (ar 0, 80, .inl (fun _ => 0))), (q6, .inl (ar 0, 80, .inl (fun _ => 0))), (q7, .inl (ar 0, 80, .inl (fun _ => 0))), (q8, .inl (ar 0, 320, .inl (fun _ => 0))), (q9, .inl (ar 0, 40, .inl (fun _ => 0))), (q10, .inl (ar 0, 40, .inl (fun _ => 0))), (q11, .inl (ar 0, 8, .inl (fun _ => 0))), (q12, .inl (ar 3, 8, .inl (fun _ => 0))), (q13, .inl (ar 0, 90, .inl (fun _ => 0))), (q14, .inl (ar 0, 90, .inl (fun _ => 0))), (q15, .inl (ar 0, 90, .inl (fun _ => 0))), (q16, .inl (ar 0, 90, .inl (fun _ => 0))), (q17, .inl (ar 0, 90, .inl (fun _ => 0))), (q18, .inl (ar 0, 80, .inl (fun _ => 0))), (q19, .inl (ar 2, 90, .inr (.inl (fun _ => 0)))), (q20, .inl (ar 3, 90, .inl (fun _ => 0))), (q21, .inl (ar 3, 90, .inl (fun _ => 0))), (q22, .inl (ar 0, 6, .inl (fun _ => 0))), (q23, .inl (ar 0, 6, .inl (fun _ => 0))), (q24, .inl (ar 0, 6, .inl (fun _ => 0))), (q25, .inl (ar 0, 6, .inl (fun _ => 0)))] := hD
  refine lv_aload_n hx hb d_Mo_init_217 rfl (lv_at hl 0 rfl) ?_
  refine lv_bipush (v := 6) hx hb d_Mo_init_218 (by decide) ?_
  refine x_newa (D := (dC, dI)) (ar := ar) (atype := .int) hx hb (hts _ k_76) (ty := .int) rfl hK hP hD hS hA (N' := 6) (a0 := (6, .inl (fun _ => 0))) (fun _ => rfl) (by decide) (by decide) (by decide) (Nat.le_of_ble_eq_true rfl) (Nat.le_of_ble_eq_true rfl) 0 rfl (by decide) d_Mo_init_220 (fun q26 H hP hD hS => ?_)
  have hP : va_P (dC, dI) x_cl [(h0, .inr (6, [.ref q1, .ref q2, .ref q3, .ref q4, .int 0, .int (-1), .int 0, .int 0, .int 0, .int 0, .int 0, .ref q5, .ref q6, .ref q7, .ref q8, .ref q9, .ref q10, .ref q11, .int 0, .ref q12, .ref q13, .ref q14, .ref q15, .ref q16, .ref q17, .ref q18, .ref q19, .ref q20, .ref q21, .int 0, .int (-1), .int 0, .int 0, .int 0, .long 0, .ref q22, .ref q23, .ref q24, .ref q25, .null, .null, .null, .int 0, .int 0, .int 0])), (q1, .inl (ar 0, 72, .inl (fun _ => 0))), (q2, .inl (ar 0, 1200, .inl (fun _ => 0))), (q3, .inl (ar 0, 1200, .inl (fun _ => 0))), (q4, .inl (ar 0, 6, .inl (fun _ => 0))), (q5, .inl (ar 0, 80, .inl (fun _ => 0))), (q6, .inl (ar 0, 80, .inl (fun _ => 0))), (q7, .inl (ar 0, 80, .inl (fun _ => 0))), (q8, .inl (ar 0, 320, .inl (fun _ => 0))), (q9, .inl (ar 0, 40, .inl (fun _ => 0))), (q10, .inl (ar 0, 40, .inl (fun _ => 0))), (q11, .inl (ar 0, 8, .inl (fun _ => 0))), (q12, .inl (ar 3, 8, .inl (fun _ => 0))), (q13, .inl (ar 0, 90, .inl (fun _ => 0))), (q14, .inl (ar 0, 90, .inl (fun _ => 0))), (q15, .inl (ar 0, 90, .inl (fun _ => 0))), (q16, .inl (ar 0, 90, .inl (fun _ => 0))), (q17, .inl (ar 0, 90, .inl (fun _ => 0))), (q18, .inl (ar 0, 80, .inl (fun _ => 0))), (q19, .inl (ar 2, 90, .inr (.inl (fun _ => 0)))), (q20, .inl (ar 3, 90, .inl (fun _ => 0))), (q21, .inl (ar 3, 90, .inl (fun _ => 0))), (q22, .inl (ar 0, 6, .inl (fun _ => 0))), (q23, .inl (ar 0, 6, .inl (fun _ => 0))), (q24, .inl (ar 0, 6, .inl (fun _ => 0))), (q25, .inl (ar 0, 6, .inl (fun _ => 0))), (q26, .inl (ar 0, 6, .inl (fun _ => 0)))] H := hP
  have hD : va_D A [(h0, .inr (6, [.ref q1, .ref q2, .ref q3, .ref q4, .int 0, .int (-1), .int 0, .int 0, .int 0, .int 0, .int 0, .ref q5, .ref q6, .ref q7, .ref q8, .ref q9, .ref q10, .ref q11, .int 0, .ref q12, .ref q13, .ref q14, .ref q15, .ref q16, .ref q17, .ref q18, .ref q19, .ref q20, .ref q21, .int 0, .int (-1), .int 0, .int 0, .int 0, .long 0, .ref q22, .ref q23, .ref q24, .ref q25, .null, .null, .null, .int 0, .int 0, .int 0])), (q1, .inl (ar 0, 72, .inl (fun _ => 0))), (q2, .inl (ar 0, 1200, .inl (fun _ => 0))), (q3, .inl (ar 0, 1200, .inl (fun _ => 0))), (q4, .inl (ar 0, 6, .inl (fun _ => 0))), (q5, .inl (ar 0, 80, .inl (fun _ => 0))), (q6, .inl (ar 0, 80, .inl (fun _ => 0))), (q7, .inl (ar 0, 80, .inl (fun _ => 0))), (q8, .inl (ar 0, 320, .inl (fun _ => 0))), (q9, .inl (ar 0, 40, .inl (fun _ => 0))), (q10, .inl (ar 0, 40, .inl (fun _ => 0))), (q11, .inl (ar 0, 8, .inl (fun _ => 0))), (q12, .inl (ar 3, 8, .inl (fun _ => 0))), (q13, .inl (ar 0, 90, .inl (fun _ => 0))), (q14, .inl (ar 0, 90, .inl (fun _ => 0))), (q15, .inl (ar 0, 90, .inl (fun _ => 0))), (q16, .inl (ar 0, 90, .inl (fun _ => 0))), (q17, .inl (ar 0, 90, .inl (fun _ => 0))), (q18, .inl (ar 0, 80, .inl (fun _ => 0))), (q19, .inl (ar 2, 90, .inr (.inl (fun _ => 0)))), (q20, .inl (ar 3, 90, .inl (fun _ => 0))), (q21, .inl (ar 3, 90, .inl (fun _ => 0))), (q22, .inl (ar 0, 6, .inl (fun _ => 0))), (q23, .inl (ar 0, 6, .inl (fun _ => 0))), (q24, .inl (ar 0, 6, .inl (fun _ => 0))), (q25, .inl (ar 0, 6, .inl (fun _ => 0))), (q26, .inl (ar 0, 6, .inl (fun _ => 0)))] := hD
  refine W.widen (k := 26) (n := 3964) (Nat.le_of_ble_eq_true rfl) (Nat.le_of_ble_eq_true rfl) ?_
  refine va_putF (D := (dC, dI)) (ci := 6) (v := .ref q26) (ty := (.array .int)) (C := "ChannelMachineModel") (T := F_Mo) (N := 45) hx hb hts i_Mo t_Mo t_Mo_ok n_Mo hown hK hP hD hS 0 rfl rfl 39 (by decide) (hts _ k_1006) (fun _ h9 => h9) rfl hin rfl (by decide +kernel) rfl rfl (Nat.le_of_ble_eq_true rfl) d_Mo_init_222 (fun H locs hP hD hS => ?_)
  have hP : va_P (dC, dI) x_cl [(h0, .inr (6, [.ref q1, .ref q2, .ref q3, .ref q4, .int 0, .int (-1), .int 0, .int 0, .int 0, .int 0, .int 0, .ref q5, .ref q6, .ref q7, .ref q8, .ref q9, .ref q10, .ref q11, .int 0, .ref q12, .ref q13, .ref q14, .ref q15, .ref q16, .ref q17, .ref q18, .ref q19, .ref q20, .ref q21, .int 0, .int (-1), .int 0, .int 0, .int 0, .long 0, .ref q22, .ref q23, .ref q24, .ref q25, .ref q26, .null, .null, .int 0, .int 0, .int 0])), (q1, .inl (ar 0, 72, .inl (fun _ => 0))), (q2, .inl (ar 0, 1200, .inl (fun _ => 0))), (q3, .inl (ar 0, 1200, .inl (fun _ => 0))), (q4, .inl (ar 0, 6, .inl (fun _ => 0))), (q5, .inl (ar 0, 80, .inl (fun _ => 0))), (q6, .inl (ar 0, 80, .inl (fun _ => 0))), (q7, .inl (ar 0, 80, .inl (fun _ => 0))), (q8, .inl (ar 0, 320, .inl (fun _ => 0))), (q9, .inl (ar 0, 40, .inl (fun _ => 0))), (q10, .inl (ar 0, 40, .inl (fun _ => 0))), (q11, .inl (ar 0, 8, .inl (fun _ => 0))), (q12, .inl (ar 3, 8, .inl (fun _ => 0))), (q13, .inl (ar 0, 90, .inl (fun _ => 0))), (q14, .inl (ar 0, 90, .inl (fun _ => 0))), (q15, .inl (ar 0, 90, .inl (fun _ => 0))), (q16, .inl (ar 0, 90, .inl (fun _ => 0))), (q17, .inl (ar 0, 90, .inl (fun _ => 0))), (q18, .inl (ar 0, 80, .inl (fun _ => 0))), (q19, .inl (ar 2, 90, .inr (.inl (fun _ => 0)))), (q20, .inl (ar 3, 90, .inl (fun _ => 0))), (q21, .inl (ar 3, 90, .inl (fun _ => 0))), (q22, .inl (ar 0, 6, .inl (fun _ => 0))), (q23, .inl (ar 0, 6, .inl (fun _ => 0))), (q24, .inl (ar 0, 6, .inl (fun _ => 0))), (q25, .inl (ar 0, 6, .inl (fun _ => 0))), (q26, .inl (ar 0, 6, .inl (fun _ => 0)))] H := hP
  have hD : va_D A [(h0, .inr (6, [.ref q1, .ref q2, .ref q3, .ref q4, .int 0, .int (-1), .int 0, .int 0, .int 0, .int 0, .int 0, .ref q5, .ref q6, .ref q7, .ref q8, .ref q9, .ref q10, .ref q11, .int 0, .ref q12, .ref q13, .ref q14, .ref q15, .ref q16, .ref q17, .ref q18, .ref q19, .ref q20, .ref q21, .int 0, .int (-1), .int 0, .int 0, .int 0, .long 0, .ref q22, .ref q23, .ref q24, .ref q25, .ref q26, .null, .null, .int 0, .int 0, .int 0])), (q1, .inl (ar 0, 72, .inl (fun _ => 0))), (q2, .inl (ar 0, 1200, .inl (fun _ => 0))), (q3, .inl (ar 0, 1200, .inl (fun _ => 0))), (q4, .inl (ar 0, 6, .inl (fun _ => 0))), (q5, .inl (ar 0, 80, .inl (fun _ => 0))), (q6, .inl (ar 0, 80, .inl (fun _ => 0))), (q7, .inl (ar 0, 80, .inl (fun _ => 0))), (q8, .inl (ar 0, 320, .inl (fun _ => 0))), (q9, .inl (ar 0, 40, .inl (fun _ => 0))), (q10, .inl (ar 0, 40, .inl (fun _ => 0))), (q11, .inl (ar 0, 8, .inl (fun _ => 0))), (q12, .inl (ar 3, 8, .inl (fun _ => 0))), (q13, .inl (ar 0, 90, .inl (fun _ => 0))), (q14, .inl (ar 0, 90, .inl (fun _ => 0))), (q15, .inl (ar 0, 90, .inl (fun _ => 0))), (q16, .inl (ar 0, 90, .inl (fun _ => 0))), (q17, .inl (ar 0, 90, .inl (fun _ => 0))), (q18, .inl (ar 0, 80, .inl (fun _ => 0))), (q19, .inl (ar 2, 90, .inr (.inl (fun _ => 0)))), (q20, .inl (ar 3, 90, .inl (fun _ => 0))), (q21, .inl (ar 3, 90, .inl (fun _ => 0))), (q22, .inl (ar 0, 6, .inl (fun _ => 0))), (q23, .inl (ar 0, 6, .inl (fun _ => 0))), (q24, .inl (ar 0, 6, .inl (fun _ => 0))), (q25, .inl (ar 0, 6, .inl (fun _ => 0))), (q26, .inl (ar 0, 6, .inl (fun _ => 0)))] := hD
  refine lv_aload_n hx hb d_Mo_init_225 rfl (lv_at hl 0 rfl) ?_
  refine lv_bipush (v := 8) hx hb d_Mo_init_226 (by decide) ?_
  refine x_newa (D := (dC, dI)) (ar := ar) (atype := .int) hx hb (hts _ k_76) (ty := .int) rfl hK hP hD hS hA (N' := 8) (a0 := (8, .inl (fun _ => 0))) (fun _ => rfl) (by decide) (by decide) (by decide) (Nat.le_of_ble_eq_true rfl) (Nat.le_of_ble_eq_true rfl) 0 rfl (by decide) d_Mo_init_228 (fun q27 H hP hD hS => ?_)
  have hP : va_P (dC, dI) x_cl [(h0, .inr (6, [.ref q1, .ref q2, .ref q3, .ref q4, .int 0, .int (-1), .int 0, .int 0, .int 0, .int 0, .int 0, .ref q5, .ref q6, .ref q7, .ref q8, .ref q9, .ref q10, .ref q11, .int 0, .ref q12, .ref q13, .ref q14, .ref q15, .ref q16, .ref q17, .ref q18, .ref q19, .ref q20, .ref q21, .int 0, .int (-1), .int 0, .int 0, .int 0, .long 0, .ref q22, .ref q23, .ref q24, .ref q25, .ref q26, .null, .null, .int 0, .int 0, .int 0])), (q1, .inl (ar 0, 72, .inl (fun _ => 0))), (q2, .inl (ar 0, 1200, .inl (fun _ => 0))), (q3, .inl (ar 0, 1200, .inl (fun _ => 0))), (q4, .inl (ar 0, 6, .inl (fun _ => 0))), (q5, .inl (ar 0, 80, .inl (fun _ => 0))), (q6, .inl (ar 0, 80, .inl (fun _ => 0))), (q7, .inl (ar 0, 80, .inl (fun _ => 0))), (q8, .inl (ar 0, 320, .inl (fun _ => 0))), (q9, .inl (ar 0, 40, .inl (fun _ => 0))), (q10, .inl (ar 0, 40, .inl (fun _ => 0))), (q11, .inl (ar 0, 8, .inl (fun _ => 0))), (q12, .inl (ar 3, 8, .inl (fun _ => 0))), (q13, .inl (ar 0, 90, .inl (fun _ => 0))), (q14, .inl (ar 0, 90, .inl (fun _ => 0))), (q15, .inl (ar 0, 90, .inl (fun _ => 0))), (q16, .inl (ar 0, 90, .inl (fun _ => 0))), (q17, .inl (ar 0, 90, .inl (fun _ => 0))), (q18, .inl (ar 0, 80, .inl (fun _ => 0))), (q19, .inl (ar 2, 90, .inr (.inl (fun _ => 0)))), (q20, .inl (ar 3, 90, .inl (fun _ => 0))), (q21, .inl (ar 3, 90, .inl (fun _ => 0))), (q22, .inl (ar 0, 6, .inl (fun _ => 0))), (q23, .inl (ar 0, 6, .inl (fun _ => 0))), (q24, .inl (ar 0, 6, .inl (fun _ => 0))), (q25, .inl (ar 0, 6, .inl (fun _ => 0))), (q26, .inl (ar 0, 6, .inl (fun _ => 0))), (q27, .inl (ar 0, 8, .inl (fun _ => 0)))] H := hP
  have hD : va_D A [(h0, .inr (6, [.ref q1, .ref q2, .ref q3, .ref q4, .int 0, .int (-1), .int 0, .int 0, .int 0, .int 0, .int 0, .ref q5, .ref q6, .ref q7, .ref q8, .ref q9, .ref q10, .ref q11, .int 0, .ref q12, .ref q13, .ref q14, .ref q15, .ref q16, .ref q17, .ref q18, .ref q19, .ref q20, .ref q21, .int 0, .int (-1), .int 0, .int 0, .int 0, .long 0, .ref q22, .ref q23, .ref q24, .ref q25, .ref q26, .null, .null, .int 0, .int 0, .int 0])), (q1, .inl (ar 0, 72, .inl (fun _ => 0))), (q2, .inl (ar 0, 1200, .inl (fun _ => 0))), (q3, .inl (ar 0, 1200, .inl (fun _ => 0))), (q4, .inl (ar 0, 6, .inl (fun _ => 0))), (q5, .inl (ar 0, 80, .inl (fun _ => 0))), (q6, .inl (ar 0, 80, .inl (fun _ => 0))), (q7, .inl (ar 0, 80, .inl (fun _ => 0))), (q8, .inl (ar 0, 320, .inl (fun _ => 0))), (q9, .inl (ar 0, 40, .inl (fun _ => 0))), (q10, .inl (ar 0, 40, .inl (fun _ => 0))), (q11, .inl (ar 0, 8, .inl (fun _ => 0))), (q12, .inl (ar 3, 8, .inl (fun _ => 0))), (q13, .inl (ar 0, 90, .inl (fun _ => 0))), (q14, .inl (ar 0, 90, .inl (fun _ => 0))), (q15, .inl (ar 0, 90, .inl (fun _ => 0))), (q16, .inl (ar 0, 90, .inl (fun _ => 0))), (q17, .inl (ar 0, 90, .inl (fun _ => 0))), (q18, .inl (ar 0, 80, .inl (fun _ => 0))), (q19, .inl (ar 2, 90, .inr (.inl (fun _ => 0)))), (q20, .inl (ar 3, 90, .inl (fun _ => 0))), (q21, .inl (ar 3, 90, .inl (fun _ => 0))), (q22, .inl (ar 0, 6, .inl (fun _ => 0))), (q23, .inl (ar 0, 6, .inl (fun _ => 0))), (q24, .inl (ar 0, 6, .inl (fun _ => 0))), (q25, .inl (ar 0, 6, .inl (fun _ => 0))), (q26, .inl (ar 0, 6, .inl (fun _ => 0))), (q27, .inl (ar 0, 8, .inl (fun _ => 0)))] := hD
  refine W.widen (k := 27) (n := 3972) (Nat.le_of_ble_eq_true rfl) (Nat.le_of_ble_eq_true rfl) ?_
  refine va_putF (D := (dC, dI)) (ci := 6) (v := .ref q27) (ty := (.array .int)) (C := "ChannelMachineModel") (T := F_Mo) (N := 45) hx hb hts i_Mo t_Mo t_Mo_ok n_Mo hown hK hP hD hS 0 rfl rfl 40 (by decide) (hts _ k_1007) (fun _ h9 => h9) rfl hin rfl (by decide +kernel) rfl rfl (Nat.le_of_ble_eq_true rfl) d_Mo_init_230 (fun H locs hP hD hS => ?_)
  have hP : va_P (dC, dI) x_cl [(h0, .inr (6, [.ref q1, .ref q2, .ref q3, .ref q4, .int 0, .int (-1), .int 0, .int 0, .int 0, .int 0, .int 0, .ref q5, .ref q6, .ref q7, .ref q8, .ref q9, .ref q10, .ref q11, .int 0, .ref q12, .ref q13, .ref q14, .ref q15, .ref q16, .ref q17, .ref q18, .ref q19, .ref q20, .ref q21, .int 0, .int (-1), .int 0, .int 0, .int 0, .long 0, .ref q22, .ref q23, .ref q24, .ref q25, .ref q26, .ref q27, .null, .int 0, .int 0, .int 0])), (q1, .inl (ar 0, 72, .inl (fun _ => 0))), (q2, .inl (ar 0, 1200, .inl (fun _ => 0))), (q3, .inl (ar 0, 1200, .inl (fun _ => 0))), (q4, .inl (ar 0, 6, .inl (fun _ => 0))), (q5, .inl (ar 0, 80, .inl (fun _ => 0))), (q6, .inl (ar 0, 80, .inl (fun _ => 0))), (q7, .inl (ar 0, 80, .inl (fun _ => 0))), (q8, .inl (ar 0, 320, .inl (fun _ => 0))), (q9, .inl (ar 0, 40, .inl (fun _ => 0))), (q10, .inl (ar 0, 40, .inl (fun _ => 0))), (q11, .inl (ar 0, 8, .inl (fun _ => 0))), (q12, .inl (ar 3, 8, .inl (fun _ => 0))), (q13, .inl (ar 0, 90, .inl (fun _ => 0))), (q14, .inl (ar 0, 90, .inl (fun _ => 0))), (q15, .inl (ar 0, 90, .inl (fun _ => 0))), (q16, .inl (ar 0, 90, .inl (fun _ => 0))), (q17, .inl (ar 0, 90, .inl (fun _ => 0))), (q18, .inl (ar 0, 80, .inl (fun _ => 0))), (q19, .inl (ar 2, 90, .inr (.inl (fun _ => 0)))), (q20, .inl (ar 3, 90, .inl (fun _ => 0))), (q21, .inl (ar 3, 90, .inl (fun _ => 0))), (q22, .inl (ar 0, 6, .inl (fun _ => 0))), (q23, .inl (ar 0, 6, .inl (fun _ => 0))), (q24, .inl (ar 0, 6, .inl (fun _ => 0))), (q25, .inl (ar 0, 6, .inl (fun _ => 0))), (q26, .inl (ar 0, 6, .inl (fun _ => 0))), (q27, .inl (ar 0, 8, .inl (fun _ => 0)))] H := hP
  have hD : va_D A [(h0, .inr (6, [.ref q1, .ref q2, .ref q3, .ref q4, .int 0, .int (-1), .int 0, .int 0, .int 0, .int 0, .int 0, .ref q5, .ref q6, .ref q7, .ref q8, .ref q9, .ref q10, .ref q11, .int 0, .ref q12, .ref q13, .ref q14, .ref q15, .ref q16, .ref q17, .ref q18, .ref q19, .ref q20, .ref q21, .int 0, .int (-1), .int 0, .int 0, .int 0, .long 0, .ref q22, .ref q23, .ref q24, .ref q25, .ref q26, .ref q27, .null, .int 0, .int 0, .int 0])), (q1, .inl (ar 0, 72, .inl (fun _ => 0))), (q2, .inl (ar 0, 1200, .inl (fun _ => 0))), (q3, .inl (ar 0, 1200, .inl (fun _ => 0))), (q4, .inl (ar 0, 6, .inl (fun _ => 0))), (q5, .inl (ar 0, 80, .inl (fun _ => 0))), (q6, .inl (ar 0, 80, .inl (fun _ => 0))), (q7, .inl (ar 0, 80, .inl (fun _ => 0))), (q8, .inl (ar 0, 320, .inl (fun _ => 0))), (q9, .inl (ar 0, 40, .inl (fun _ => 0))), (q10, .inl (ar 0, 40, .inl (fun _ => 0))), (q11, .inl (ar 0, 8, .inl (fun _ => 0))), (q12, .inl (ar 3, 8, .inl (fun _ => 0))), (q13, .inl (ar 0, 90, .inl (fun _ => 0))), (q14, .inl (ar 0, 90, .inl (fun _ => 0))), (q15, .inl (ar 0, 90, .inl (fun _ => 0))), (q16, .inl (ar 0, 90, .inl (fun _ => 0))), (q17, .inl (ar 0, 90, .inl (fun _ => 0))), (q18, .inl (ar 0, 80, .inl (fun _ => 0))), (q19, .inl (ar 2, 90, .inr (.inl (fun _ => 0)))), (q20, .inl (ar 3, 90, .inl (fun _ => 0))), (q21, .inl (ar 3, 90, .inl (fun _ => 0))), (q22, .inl (ar 0, 6, .inl (fun _ => 0))), (q23, .inl (ar 0, 6, .inl (fun _ => 0))), (q24, .inl (ar 0, 6, .inl (fun _ => 0))), (q25, .inl (ar 0, 6, .inl (fun _ => 0))), (q26, .inl (ar 0, 6, .inl (fun _ => 0))), (q27, .inl (ar 0, 8, .inl (fun _ => 0)))] := hD
  refine lv_aload_n hx hb d_Mo_init_233 rfl (lv_at hl 0 rfl) ?_
  refine lv_bipush (v := 8) hx hb d_Mo_init_234 (by decide) ?_
  refine x_newa (D := (dC, dI)) (ar := ar) (atype := .int) hx hb (hts _ k_76) (ty := .int) rfl hK hP hD hS hA (N' := 8) (a0 := (8, .inl (fun _ => 0))) (fun _ => rfl) (by decide) (by decide) (by decide) (Nat.le_of_ble_eq_true rfl) (Nat.le_of_ble_eq_true rfl) 0 rfl (by decide) d_Mo_init_236 (fun q28 H hP hD hS => ?_)
  have hP : va_P (dC, dI) x_cl [(h0, .inr (6, [.ref q1, .ref q2, .ref q3, .ref q4, .int 0, .int (-1), .int 0, .int 0, .int 0, .int 0, .int 0, .ref q5, .ref q6, .ref q7, .ref q8, .ref q9, .ref q10, .ref q11, .int 0, .ref q12, .ref q13, .ref q14, .ref q15, .ref q16, .ref q17, .ref q18, .ref q19, .ref q20, .ref q21, .int 0, .int (-1), .int 0, .int 0, .int 0, .long 0, .ref q22, .ref q23, .ref q24, .ref q25, .ref q26, .ref q27, .null, .int 0, .int 0, .int 0])), (q1, .inl (ar 0, 72, .inl (fun _ => 0))), (q2, .inl (ar 0, 1200, .inl (fun _ => 0))), (q3, .inl (ar 0, 1200, .inl (fun _ => 0))), (q4, .inl (ar 0, 6, .inl (fun _ => 0))), (q5, .inl (ar 0, 80, .inl (fun _ => 0))), (q6, .inl (ar 0, 80, .inl (fun _ => 0))), (q7, .inl (ar 0, 80, .inl (fun _ => 0))), (q8, .inl (ar 0, 320, .inl (fun _ => 0))), (q9, .inl (ar 0, 40, .inl (fun _ => 0))), (q10, .inl (ar 0, 40, .inl (fun _ => 0))), (q11, .inl (ar 0, 8, .inl (fun _ => 0))), (q12, .inl (ar 3, 8, .inl (fun _ => 0))), (q13, .inl (ar 0, 90, .inl (fun _ => 0))), (q14, .inl (ar 0, 90, .inl (fun _ => 0))), (q15, .inl (ar 0, 90, .inl (fun _ => 0))), (q16, .inl (ar 0, 90, .inl (fun _ => 0))), (q17, .inl (ar 0, 90, .inl (fun _ => 0))), (q18, .inl (ar 0, 80, .inl (fun _ => 0))), (q19, .inl (ar 2, 90, .inr (.inl (fun _ => 0)))), (q20, .inl (ar 3, 90, .inl (fun _ => 0))), (q21, .inl (ar 3, 90, .inl (fun _ => 0))), (q22, .inl (ar 0, 6, .inl (fun _ => 0))), (q23, .inl (ar 0, 6, .inl (fun _ => 0))), (q24, .inl (ar 0, 6, .inl (fun _ => 0))), (q25, .inl (ar 0, 6, .inl (fun _ => 0))), (q26, .inl (ar 0, 6, .inl (fun _ => 0))), (q27, .inl (ar 0, 8, .inl (fun _ => 0))), (q28, .inl (ar 0, 8, .inl (fun _ => 0)))] H := hP
  have hD : va_D A [(h0, .inr (6, [.ref q1, .ref q2, .ref q3, .ref q4, .int 0, .int (-1), .int 0, .int 0, .int 0, .int 0, .int 0, .ref q5, .ref q6, .ref q7, .ref q8, .ref q9, .ref q10, .ref q11, .int 0, .ref q12, .ref q13, .ref q14, .ref q15, .ref q16, .ref q17, .ref q18, .ref q19, .ref q20, .ref q21, .int 0, .int (-1), .int 0, .int 0, .int 0, .long 0, .ref q22, .ref q23, .ref q24, .ref q25, .ref q26, .ref q27, .null, .int 0, .int 0, .int 0])), (q1, .inl (ar 0, 72, .inl (fun _ => 0))), (q2, .inl (ar 0, 1200, .inl (fun _ => 0))), (q3, .inl (ar 0, 1200, .inl (fun _ => 0))), (q4, .inl (ar 0, 6, .inl (fun _ => 0))), (q5, .inl (ar 0, 80, .inl (fun _ => 0))), (q6, .inl (ar 0, 80, .inl (fun _ => 0))), (q7, .inl (ar 0, 80, .inl (fun _ => 0))), (q8, .inl (ar 0, 320, .inl (fun _ => 0))), (q9, .inl (ar 0, 40, .inl (fun _ => 0))), (q10, .inl (ar 0, 40, .inl (fun _ => 0))), (q11, .inl (ar 0, 8, .inl (fun _ => 0))), (q12, .inl (ar 3, 8, .inl (fun _ => 0))), (q13, .inl (ar 0, 90, .inl (fun _ => 0))), (q14, .inl (ar 0, 90, .inl (fun _ => 0))), (q15, .inl (ar 0, 90, .inl (fun _ => 0))), (q16, .inl (ar 0, 90, .inl (fun _ => 0))), (q17, .inl (ar 0, 90, .inl (fun _ => 0))), (q18, .inl (ar 0, 80, .inl (fun _ => 0))), (q19, .inl (ar 2, 90, .inr (.inl (fun _ => 0)))), (q20, .inl (ar 3, 90, .inl (fun _ => 0))), (q21, .inl (ar 3, 90, .inl (fun _ => 0))), (q22, .inl (ar 0, 6, .inl (fun _ => 0))), (q23, .inl (ar 0, 6, .inl (fun _ => 0))), (q24, .inl (ar 0, 6, .inl (fun _ => 0))), (q25, .inl (ar 0, 6, .inl (fun _ => 0))), (q26, .inl (ar 0, 6, .inl (fun _ => 0))), (q27, .inl (ar 0, 8, .inl (fun _ => 0))), (q28, .inl (ar 0, 8, .inl (fun _ => 0)))] := hD
  refine W.widen (k := 28) (n := 3980) (Nat.le_of_ble_eq_true rfl) (Nat.le_of_ble_eq_true rfl) ?_
  refine va_putF (D := (dC, dI)) (ci := 6) (v := .ref q28) (ty := (.array .int)) (C := "ChannelMachineModel") (T := F_Mo) (N := 45) hx hb hts i_Mo t_Mo t_Mo_ok n_Mo hown hK hP hD hS 0 rfl rfl 41 (by decide) (hts _ k_1008) (fun _ h9 => h9) rfl hin rfl (by decide +kernel) rfl rfl (Nat.le_of_ble_eq_true rfl) d_Mo_init_238 (fun H locs hP hD hS => ?_)
  have hP : va_P (dC, dI) x_cl [(h0, .inr (6, [.ref q1, .ref q2, .ref q3, .ref q4, .int 0, .int (-1), .int 0, .int 0, .int 0, .int 0, .int 0, .ref q5, .ref q6, .ref q7, .ref q8, .ref q9, .ref q10, .ref q11, .int 0, .ref q12, .ref q13, .ref q14, .ref q15, .ref q16, .ref q17, .ref q18, .ref q19, .ref q20, .ref q21, .int 0, .int (-1), .int 0, .int 0, .int 0, .long 0, .ref q22, .ref q23, .ref q24, .ref q25, .ref q26, .ref q27, .ref q28, .int 0, .int 0, .int 0])), (q1, .inl (ar 0, 72, .inl (fun _ => 0))), (q2, .inl (ar 0, 1200, .inl (fun _ => 0))), (q3, .inl (ar 0, 1200, .inl (fun _ => 0))), (q4, .inl (ar 0, 6, .inl (fun _ => 0))), (q5, .inl (ar 0, 80, .inl (fun _ => 0))), (q6, .inl (ar 0, 80, .inl (fun _ => 0))), (q7, .inl (ar 0, 80, .inl (fun _ => 0))), (q8, .inl (ar 0, 320, .inl (fun _ => 0))), (q9, .inl (ar 0, 40, .inl (fun _ => 0))), (q10, .inl (ar 0, 40, .inl (fun _ => 0))), (q11, .inl (ar 0, 8, .inl (fun _ => 0))), (q12, .inl (ar 3, 8, .inl (fun _ => 0))), (q13, .inl (ar 0, 90, .inl (fun _ => 0))), (q14, .inl (ar 0, 90, .inl (fun _ => 0))), (q15, .inl (ar 0, 90, .inl (fun _ => 0))), (q16, .inl (ar 0, 90, .inl (fun _ => 0))), (q17, .inl (ar 0, 90, .inl (fun _ => 0))), (q18, .inl (ar 0, 80, .inl (fun _ => 0))), (q19, .inl (ar 2, 90, .inr (.inl (fun _ => 0)))), (q20, .inl (ar 3, 90, .inl (fun _ => 0))), (q21, .inl (ar 3, 90, .inl (fun _ => 0))), (q22, .inl (ar 0, 6, .inl (fun _ => 0))), (q23, .inl (ar 0, 6, .inl (fun _ => 0))), (q24, .inl (ar 0, 6, .inl (fun _ => 0))), (q25, .inl (ar 0, 6, .inl (fun _ => 0))), (q26, .inl (ar 0, 6, .inl (fun _ => 0))), (q27, .inl (ar 0, 8, .inl (fun _ => 0))), (q28, .inl (ar 0, 8, .inl (fun _ => 0)))] H := hP
  have hD : va_D A [(h0, .inr (6, [.ref q1, .ref q2, .ref q3, .ref q4, .int 0, .int (-1), .int 0, .int 0, .int 0, .int 0, .int 0, .ref q5, .ref q6, .ref q7, .ref q8, .ref q9, .ref q10, .ref q11, .int 0, .ref q12, .ref q13, .ref q14, .ref q15, .ref q16, .ref q17, .ref q18, .ref q19, .ref q20, .ref q21, .int 0, .int (-1), .int 0, .int 0, .int 0, .long 0, .ref q22, .ref q23, .ref q24, .ref q25, .ref q26, .ref q27, .ref q28, .int 0, .int 0, .int 0])), (q1, .inl (ar 0, 72, .inl (fun _ => 0))), (q2, .inl (ar 0, 1200, .inl (fun _ => 0))), (q3, .inl (ar 0, 1200, .inl (fun _ => 0))), (q4, .inl (ar 0, 6, .inl (fun _ => 0))), (q5, .inl (ar 0, 80, .inl (fun _ => 0))), (q6, .inl (ar 0, 80, .inl (fun _ => 0))), (q7, .inl (ar 0, 80, .inl (fun _ => 0))), (q8, .inl (ar 0, 320, .inl (fun _ => 0))), (q9, .inl (ar 0, 40, .inl (fun _ => 0))), (q10, .inl (ar 0, 40, .inl (fun _ => 0))), (q11, .inl (ar 0, 8, .inl (fun _ => 0))), (q12, .inl (ar 3, 8, .inl (fun _ => 0))), (q13, .inl (ar 0, 90, .inl (fun _ => 0))), (q14, .inl (ar 0, 90, .inl (fun _ => 0))), (q15, .inl (ar 0, 90, .inl (fun _ => 0))), (q16, .inl (ar 0, 90, .inl (fun _ => 0))), (q17, .inl (ar 0, 90, .inl (fun _ => 0))), (q18, .inl (ar 0, 80, .inl (fun _ => 0))), (q19, .inl (ar 2, 90, .inr (.inl (fun _ => 0)))), (q20, .inl (ar 3, 90, .inl (fun _ => 0))), (q21, .inl (ar 3, 90, .inl (fun _ => 0))), (q22, .inl (ar 0, 6, .inl (fun _ => 0))), (q23, .inl (ar 0, 6, .inl (fun _ => 0))), (q24, .inl (ar 0, 6, .inl (fun _ => 0))), (q25, .inl (ar 0, 6, .inl (fun _ => 0))), (q26, .inl (ar 0, 6, .inl (fun _ => 0))), (q27, .inl (ar 0, 8, .inl (fun _ => 0))), (q28, .inl (ar 0, 8, .inl (fun _ => 0)))] := hD
  exact W.vret hx hb hr (fun t ht hW => ⟨⟨(), rfl, trivial, q1, q2, q3, q4, q5, q6, q7, q8, q9, q10, q11, q12, q13, q14, q15, q16, q17, q18, q19, q20, q21, q22, q23, q24, q25, q26, q27, q28, by rw [ht]; exact hP, hD⟩, hS.F ht⟩) hS.2.2 d_Mo_init_241
end
section
-- ===== 09.calls: words of calls and throws out of x_T =====
theorem x_goodV {own C : String} {idx : Nat} {y : MethodName} {c2 : Cond} (h1 : Cond.methodLink own idx y ∈ x_T) (h2 : Cond.instanceMethod y ∈ x_T) (h3 : Cond.selects C y y ∈ x_T) (h4 : Cond.initialized C ∈ x_T) (h5 : c2 ∈ x_T) : GoodIn x_T (wsV own idx C y (c2 :: x_T)) := fun w hw => by
  have hm : w ∈ x_T := by
    rcases List.mem_append.mp hw with h | h
    · simp only [List.mem_cons, List.not_mem_nil, or_false] at h
      rcases h with rfl | rfl | rfl | rfl
      · exact h1
      · exact h2
      · exact h3
      · exact h4
    · exact (List.mem_cons.mp h).elim (fun e => by rw [e]; exact h5) id
  exact ⟨hm, good_of_word (x_T_good w hm)⟩
theorem x_goodS {own : String} {idx : Nat} {y : MethodName} {c2 : Cond} (h1 : Cond.methodLink own idx y ∈ x_T) (h2 : Cond.static y ∈ x_T) (h3 : Cond.initialized own ∈ x_T) (h5 : c2 ∈ x_T) : GoodIn x_T (wsS own idx y (c2 :: x_T)) := fun w hw => by
  have hm : w ∈ x_T := by
    rcases List.mem_append.mp hw with h | h
    · simp only [List.mem_cons, List.not_mem_nil, or_false] at h
      rcases h with rfl | rfl | rfl
      · exact h1
      · exact h2
      · exact h3
    · exact (List.mem_cons.mp h).elim (fun e => by rw [e]; exact h5) id
  exact ⟨hm, good_of_word (x_T_good w hm)⟩
theorem x_goodSW {own : String} {idx : Nat} {y : MethodName} {c2 : Cond} (h1 : Cond.methodLink own idx y ∈ x_T) (h2 : Cond.static y ∈ x_T) (h3 : Cond.initialized y.cls ∈ x_T) (h5 : c2 ∈ x_T) : GoodIn x_T (va_wsS own idx y (c2 :: x_T)) := fun w hw => by
  have hm : w ∈ x_T := by
    rcases List.mem_append.mp hw with h | h
    · simp only [List.mem_cons, List.not_mem_nil, or_false] at h
      rcases h with rfl | rfl | rfl
      · exact h1
      · exact h2
      · exact h3
    · exact (List.mem_cons.mp h).elim (fun e => by rw [e]; exact h5) id
  exact ⟨hm, good_of_word (x_T_good w hm)⟩
/-- the words of a throw -/
def x_okT (ws : List Cond) : Bool := ws.all (fun w => (decide (w ∈ lw_tbl)) && (goodWord w || (x_nk w && decide (w ∈ tables_1))))
theorem x_hat {ws : List Cond} {args : Array Value} {s : State} (h : x_okT ws = true) (hts : ∀ w ∈ x_T, w.before args s = true) (hn : ∀ w ∈ x_nest, va_Nw w s) : ∀ w ∈ ws, w.before args s = true := fun w hw => by
  have h1 := List.all_eq_true.mp h w hw
  simp only [Bool.and_eq_true, Bool.or_eq_true, decide_eq_true_eq] at h1
  obtain ⟨h2, h3 | ⟨h3, h4⟩⟩ := h1
  · exact hts w (List.mem_filter.mpr ⟨h2, h3⟩)
  · have h5 := hn w (List.mem_filter.mpr ⟨h4, h3⟩)
    refine va_Nw.use ?_ h5
    cases w <;> first | rfl | cases h3
def x_up2 : List String := ["java/lang/RuntimeException", "java/lang/Exception"]
theorem x_t35 : x_okT (vx_atS "ChannelMachine" 35 "java/lang/IllegalArgumentException" x_up2) = true := by decide +kernel
theorem x_t45 : x_okT (vx_atS "ChannelMachine" 45 "java/lang/IllegalStateException" x_up2) = true := by decide +kernel
theorem x_lt {x y : Int32} : x < y ↔ x.toInt < y.toInt := Int32.lt_iff_toInt_lt
theorem x_le {x y : Int32} : x ≤ y ↔ x.toInt ≤ y.toInt := Int32.le_iff_toInt_le
/-- a place of a row of n places -/
theorem x_in {v b : Int32} {n : Nat} (hb : b.toInt = (n : Int)) (h1 : ¬ v < 0) (h2 : v < b) : vp_in v n := by
  rw [vp_in_iff]
  rw [x_lt] at h1 h2
  have h0 : (0 : Int32).toInt = 0 := by decide
  omega
theorem x_in5 {v : Int32} (h1 : ¬ v < 0) (h2 : ¬ 5 < v) : vp_in v 6 := by
  rw [vp_in_iff]
  rw [x_lt] at h1 h2
  have h0 : (0 : Int32).toInt = 0 := by decide
  have h5 : (5 : Int32).toInt = 5 := by decide
  omega
theorem x_gs {fs : List Value} {i k : Nat} {x v : Value} (h : i ≠ k) (hv : fs[k]? = some v) : (fs.set i x)[k]? = some v := by rw [List.getElem?_set_ne h]; exact hv
theorem x_ge {fs : List Value} {k : Nat} {x : Value} (h : k < fs.length) : (fs.set k x)[k]? = some x := by simp [h]
/-- what count answers on a new object -/
def x_cnt (v : Int32) : Int32 := if 1 ≤ v ∧ v ≤ 8 then 0 else -1
theorem x_cnt_out {v : Int32} (h : v.toInt < 0 ∨ 8 < v.toInt) : (-1 : Int32) = x_cnt v := by
  unfold x_cnt
  rw [if_neg]
  intro h9
  rw [x_le, x_le] at h9
  have h1 : (1 : Int32).toInt = 1 := by decide
  have h8 : (8 : Int32).toInt = 8 := by decide
  omega
theorem x_9 (v : Int32) : (v.toInt < 0 ∨ 8 < v.toInt) ∨ v = 0 ∨ v = 1 ∨ v = 2 ∨ v = 3 ∨ v = 4 ∨ v = 5 ∨ v = 6 ∨ v = 7 ∨ v = 8 := by
  by_cases h : v.toInt < 0 ∨ 8 < v.toInt
  · exact Or.inl h
  · have e : ∀ k : Int32, v.toInt = k.toInt → v = k := fun k h => Int32.toInt_inj.mp h
    have hk : v.toInt = 0 ∨ v.toInt = 1 ∨ v.toInt = 2 ∨ v.toInt = 3 ∨ v.toInt = 4 ∨ v.toInt = 5 ∨ v.toInt = 6 ∨ v.toInt = 7 ∨ v.toInt = 8 := by omega
    right
    rcases hk with h | h | h | h | h | h | h | h | h
    · exact Or.inl (e 0 (by rw [h]; rfl))
    · exact Or.inr (Or.inl (e 1 (by rw [h]; rfl)))
    · exact Or.inr (Or.inr (Or.inl (e 2 (by rw [h]; rfl))))
    · exact Or.inr (Or.inr (Or.inr (Or.inl (e 3 (by rw [h]; rfl)))))
    · exact Or.inr (Or.inr (Or.inr (Or.inr (Or.inl (e 4 (by rw [h]; rfl))))))
    · exact Or.inr (Or.inr (Or.inr (Or.inr (Or.inr (Or.inl (e 5 (by rw [h]; rfl)))))))
    · exact Or.inr (Or.inr (Or.inr (Or.inr (Or.inr (Or.inr (Or.inl (e 6 (by rw [h]; rfl))))))))
    · exact Or.inr (Or.inr (Or.inr (Or.inr (Or.inr (Or.inr (Or.inr (Or.inl (e 7 (by rw [h]; rfl)))))))))
    · exact Or.inr (Or.inr (Or.inr (Or.inr (Or.inr (Or.inr (Or.inr (Or.inr (e 8 (by rw [h]; rfl)))))))))
theorem x_goodF {own C : String} {idx : Nat} {x y : MethodName} {c2 : Cond} (h1 : Cond.methodLink own idx x ∈ x_T) (h2 : Cond.selects C x y ∈ x_T) (h3 : Cond.instanceMethod y ∈ x_T) (h4 : Cond.initialized y.cls ∈ x_T) (h5 : c2 ∈ x_T) : GoodIn x_T (va_wsF own idx C x y (c2 :: x_T)) := fun w hw => by
  have hm : w ∈ x_T := by
    rcases List.mem_append.mp hw with h | h
    · simp only [List.mem_cons, List.not_mem_nil, or_false] at h
      rcases h with rfl | rfl | rfl | rfl
      · exact h1
      · exact h2
      · exact h3
      · exact h4
    · exact (List.mem_cons.mp h).elim (fun e => by rw [e]; exact h5) id
  exact ⟨hm, good_of_word (x_T_good w hm)⟩
theorem x_6 {v : Int32} (h1 : ¬ v < 0) (h2 : v < 6) : v = 0 ∨ v = 1 ∨ v = 2 ∨ v = 3 ∨ v = 4 ∨ v = 5 := by
  rcases x_9 v with h | h | h | h | h | h | h | h | h | h
  · rw [x_lt] at h1 h2
    have h0 : (0 : Int32).toInt = 0 := by decide
    have h6 : (6 : Int32).toInt = 6 := by decide
    omega
  · exact Or.inl h
  · exact Or.inr (Or.inl h)
  · exact Or.inr (Or.inr (Or.inl h))
  · exact Or.inr (Or.inr (Or.inr (Or.inl h)))
  · exact Or.inr (Or.inr (Or.inr (Or.inr (Or.inl h))))
  · exact Or.inr (Or.inr (Or.inr (Or.inr (Or.inr h))))
  · subst h; exact absurd h2 (by decide)
  · subst h; exact absurd h2 (by decide)
  · subst h; exact absurd h2 (by decide)
section XT
variable {p : Program} {l : Launch} {e : Env} {R : Room} {s : State} {m : MethodId} {args : Array Value} {below : List Frame} {meth : Method} {c : Code} {H : Heap} {locs : List Loc} {cells slots : Nat}
variable {ls : Array Slot} {rest : List Value} {Qc : Array Value → State → Outcome → State → Prop} {XC : String → State → State → Prop} {free : Addr → Prop}
theorem x_throw {cc : ByteArray} {pc : Nat} (hexec : p.tables.exec = Jvm.exec) (hb : c.code = cc) (hst : l.stackTraces = false) {own cls text : String} {ik is ic mc ms : Nat} {A : Nat → Prop} {D : va_G} {ar : Nat → ClassId} {N : Nat} {z : Nat → Nat}
    (hown : s.vm.findClass own = some m.cls) (hk : Cond.classLink own ik cls ∈ x_T) (hini : Cond.initialized cls ∈ x_T) (hstr : (own, is, text) ∈ x_str) (hok : x_okT (vx_atS own ic cls x_up2) = true) (hgd : (Cond.classLink own ik cls :: Cond.initialized cls :: vx_atS own ic cls x_up2).all vx_ot = true) (hfit : Bundle.fit cls = true)
    (hts : ∀ w ∈ x_T, w.before args s = true) (hU : x_U D ar s) (hZ : x_Z N z s) (hAN : ∀ q, A q → N ≤ q) (hS : va_S A s.heap H locs) (hsize : ls.size = c.maxLocals)
    (d0 : decode cc pc = .ok (.new ik, 3)) (d3 : decode cc (pc + 3) = .ok (.dup, 1)) (d4 : decode cc (pc + 4) = .ok (.ldc is, 2)) (d6 : decode cc (pc + 6) = .ok (.invokespecial ic, 3)) (d9 : decode cc (pc + 9) = .ok (.athrow, 1))
    (hout : ∀ x ∈ c.exceptionTable.toList, False) (hRframes : 5 < R.frames) (hRlocals : (rest.map fun v => v.category).sum + 82 ≤ R.locals) (hRcells : cells + 1 ≤ R.cells) (hRslots : slots + 6 ≤ R.slots) (hlocks : meth.locks = false)
    (hx : ∀ t : State, s.vm.Alike t.vm → H.size ≤ t.heap.size → (∀ q : Nat, q < H.size → t.heap[q]? = H[q]?) → va_F A s t → XC cls s t)
    (hf : ∀ z ∈ locs, free z.base) (hc : cells + 1 ≤ mc) (hs : slots + 6 ≤ ms) :
    W p l e R s m args below meth c H locs cells slots (vx_MQ below Qc XC args s mc ms free) (F0 m pc ls rest) := by
  obtain ⟨sa, hsa⟩ := hU.2.2.2.1 _ hstr
  refine vx_throwS (names := x_up2) (A := A) hexec hb hst hown hfit (by decide +kernel) (hts _ hk) (hts _ hini) hsa (x_hat hok hts hU.2.1) (fun w hw => List.all_eq_true.mp hgd w hw) (hZ.2.1.narrow hAN) (hZ.2.2.1.narrow hAN) hS hsize d0 d3 d4 d6 d9 (fun x h => (hout x h).elim) hRframes hRlocals hRcells hRslots hlocks (fun t h1 h2 h3 => hx t h1 h2 h3 ?_) hf hc hs
  exact ⟨Nat.le_trans hS.1 h2, fun q h4 h5 => by rw [h3 q (Nat.lt_of_lt_of_le h4 hS.1)]; exact hS.2.1 q h4 h5⟩
end XT
end
section
-- ===== 10.cls: calls of the class on a new object; small methods of the reference, by program =====
theorem k_9 : (Jvm.Cond.initialized "ChannelMachineModel") ∈ x_T := x_at 9 (by decide +kernel) (by decide +kernel)
theorem k_13 : (Jvm.Cond.initialized "java/lang/IllegalArgumentException") ∈ x_T := x_at 13 (by decide +kernel) (by decide +kernel)
theorem k_14 : (Jvm.Cond.initialized "java/lang/IllegalStateException") ∈ x_T := x_at 14 (by decide +kernel) (by decide +kernel)
theorem k_115 : (Jvm.Cond.fieldLink "java/util/ArrayList" (48 : Nat) "java/util/ArrayList" "size" "I") ∈ x_T := x_at 115 (by decide +kernel) (by decide +kernel)
theorem k_209 : (Jvm.Cond.methodLink "ChannelMachine" (150 : Nat) ({ cls := "java/util/List", name := "size", desc := "()I" } : Jvm.MethodName)) ∈ x_T := x_at 209 (by decide +kernel) (by decide +kernel)
theorem k_213 : (Jvm.Cond.selects "java/util/ArrayList" ({ cls := "java/util/List", name := "size", desc := "()I" } : Jvm.MethodName) ({ cls := "java/util/ArrayList", name := "size", desc := "()I" } : Jvm.MethodName)) ∈ x_T := x_at 213 (by decide +kernel) (by decide +kernel)
theorem k_215 : (Jvm.Cond.instanceMethod ({ cls := "java/util/ArrayList", name := "size", desc := "()I" } : Jvm.MethodName)) ∈ x_T := x_at 215 (by decide +kernel) (by decide +kernel)
theorem k_217 : (Jvm.Cond.code ({ cls := "java/util/ArrayList", name := "size", desc := "()I" } : Jvm.MethodName) prog_28_method_8_code (1 : Nat) (Option.some Jvm.ClassFile.FieldType.int)) ∈ x_T := x_at 217 (by decide +kernel) (by decide +kernel)
theorem k_230 : (Jvm.Cond.classLink "ChannelMachine" (31 : Nat) "java/lang/IllegalArgumentException") ∈ x_T := x_at 230 (by decide +kernel) (by decide +kernel)
theorem k_299 : (Jvm.Cond.classLink "ChannelMachine" (41 : Nat) "java/lang/IllegalStateException") ∈ x_T := x_at 299 (by decide +kernel) (by decide +kernel)
theorem k_976 : (Jvm.Cond.fieldLink "ChannelMachineModel" (208 : Nat) "ChannelMachineModel" "status" "I") ∈ x_T := x_at 976 (by decide +kernel) (by decide +kernel)
theorem k_1000 : (Jvm.Cond.fieldLink "ChannelMachineModel" (103 : Nat) "ChannelMachineModel" "thrown" "I") ∈ x_T := x_at 1000 (by decide +kernel) (by decide +kernel)
theorem k_1010 : (Jvm.Cond.fieldLink "ChannelMachineModel" (195 : Nat) "ChannelMachineModel" "boxed" "I") ∈ x_T := x_at 1010 (by decide +kernel) (by decide +kernel)
theorem k_1113 : (Jvm.Cond.methodLink "ChannelMachineModel" (106 : Nat) ({ cls := "ChannelMachineModel", name := "in", desc := "(III)Z" } : Jvm.MethodName)) ∈ x_T := x_at 1113 (by decide +kernel) (by decide +kernel)
theorem k_1114 : (Jvm.Cond.static ({ cls := "ChannelMachineModel", name := "in", desc := "(III)Z" } : Jvm.MethodName)) ∈ x_T := x_at 1114 (by decide +kernel) (by decide +kernel)
theorem k_1115 : (Jvm.Cond.code ({ cls := "ChannelMachineModel", name := "in", desc := "(III)Z" } : Jvm.MethodName) prog_12_method_3_code (3 : Nat) (Option.some Jvm.ClassFile.FieldType.boolean)) ∈ x_T := x_at 1115 (by decide +kernel) (by decide +kernel)
theorem k_1116 : (Jvm.Cond.methodLink "ChannelMachineModel" (110 : Nat) ({ cls := "ChannelMachineModel", name := "bad", desc := "(Z)Z" } : Jvm.MethodName)) ∈ x_T := x_at 1116 (by decide +kernel) (by decide +kernel)
theorem k_1118 : (Jvm.Cond.instanceMethod ({ cls := "ChannelMachineModel", name := "bad", desc := "(Z)Z" } : Jvm.MethodName)) ∈ x_T := x_at 1118 (by decide +kernel) (by decide +kernel)
theorem k_1119 : (Jvm.Cond.code ({ cls := "ChannelMachineModel", name := "bad", desc := "(Z)Z" } : Jvm.MethodName) prog_12_method_4_code (2 : Nat) (Option.some Jvm.ClassFile.FieldType.boolean)) ∈ x_T := x_at 1119 (by decide +kernel) (by decide +kernel)
theorem k_1120 : (Jvm.Cond.methodLink "ChannelMachineModel" (117 : Nat) ({ cls := "ChannelMachineModel", name := "fail", desc := "(I)I" } : Jvm.MethodName)) ∈ x_T := x_at 1120 (by decide +kernel) (by decide +kernel)
theorem k_1122 : (Jvm.Cond.instanceMethod ({ cls := "ChannelMachineModel", name := "fail", desc := "(I)I" } : Jvm.MethodName)) ∈ x_T := x_at 1122 (by decide +kernel) (by decide +kernel)
theorem k_1123 : (Jvm.Cond.code ({ cls := "ChannelMachineModel", name := "fail", desc := "(I)I" } : Jvm.MethodName) prog_12_method_5_code (2 : Nat) (Option.some Jvm.ClassFile.FieldType.int)) ∈ x_T := x_at 1123 (by decide +kernel) (by decide +kernel)
theorem kn_94 : (Jvm.Cond.fieldLinkNest "ChannelMachine" (107 : Nat) "ChannelMachine$Row" "size" "I" "ChannelMachine") ∈ x_nest := x_nest_at 94 (by decide +kernel) (by decide +kernel)
theorem kn_151 : (Jvm.Cond.fieldLinkNest "ChannelMachine" (124 : Nat) "ChannelMachine$Machine" "variables" "[I" "ChannelMachine") ∈ x_nest := x_nest_at 151 (by decide +kernel) (by decide +kernel)
theorem kn_155 : (Jvm.Cond.fieldLinkNest "ChannelMachine" (92 : Nat) "ChannelMachine$Machine" "gifts" "LChannelMachine$Row;" "ChannelMachine") ∈ x_nest := x_nest_at 155 (by decide +kernel) (by decide +kernel)
theorem kn_157 : (Jvm.Cond.fieldLinkNest "ChannelMachine" (110 : Nat) "ChannelMachine$Machine" "box" "LChannelMachine$Row;" "ChannelMachine") ∈ x_nest := x_nest_at 157 (by decide +kernel) (by decide +kernel)
theorem kn_159 : (Jvm.Cond.fieldLinkNest "ChannelMachine" (146 : Nat) "ChannelMachine$Machine" "queue" "Ljava/util/List;" "ChannelMachine") ∈ x_nest := x_nest_at 159 (by decide +kernel) (by decide +kernel)
theorem kn_161 : (Jvm.Cond.fieldLinkNest "ChannelMachine" (160 : Nat) "ChannelMachine$Machine" "sleepers" "Ljava/util/List;" "ChannelMachine") ∈ x_nest := x_nest_at 161 (by decide +kernel) (by decide +kernel)
theorem kn_164 : (Jvm.Cond.fieldLinkNest "ChannelMachine" (83 : Nat) "ChannelMachine$Machine" "state" "I" "ChannelMachine") ∈ x_nest := x_nest_at 164 (by decide +kernel) (by decide +kernel)
theorem kn_166 : (Jvm.Cond.fieldLinkNest "ChannelMachine" (154 : Nat) "ChannelMachine$Machine" "tasks" "I" "ChannelMachine") ∈ x_nest := x_nest_at 166 (by decide +kernel) (by decide +kernel)
theorem kn_168 : (Jvm.Cond.fieldLinkNest "ChannelMachine" (157 : Nat) "ChannelMachine$Machine" "acts" "I" "ChannelMachine") ∈ x_nest := x_nest_at 168 (by decide +kernel) (by decide +kernel)
theorem kn_170 : (Jvm.Cond.fieldLinkNest "ChannelMachine" (142 : Nat) "ChannelMachine$Machine" "time" "J" "ChannelMachine") ∈ x_nest := x_nest_at 170 (by decide +kernel) (by decide +kernel)
theorem kp_48 : (Jvm.Cond.selects "ChannelMachineModel" ({ cls := "ChannelMachineModel", name := "bad", desc := "(Z)Z" } : Jvm.MethodName) ({ cls := "ChannelMachineModel", name := "bad", desc := "(Z)Z" } : Jvm.MethodName)) ∈ x_T := x_sel (q := (({ cls := "ChannelMachineModel", name := "bad", desc := "(Z)Z" } : Jvm.MethodName), 45)) 48 (by decide +kernel) (by decide +kernel)
theorem kp_49 : (Jvm.Cond.selects "ChannelMachineModel" ({ cls := "ChannelMachineModel", name := "fail", desc := "(I)I" } : Jvm.MethodName) ({ cls := "ChannelMachineModel", name := "fail", desc := "(I)I" } : Jvm.MethodName)) ∈ x_T := x_sel (q := (({ cls := "ChannelMachineModel", name := "fail", desc := "(I)I" } : Jvm.MethodName), 45)) 49 (by decide +kernel) (by decide +kernel)
theorem x_tChannelMachine_35 : x_okT (vx_atS "ChannelMachine" 35 "java/lang/IllegalArgumentException" x_up2) = true := by decide +kernel
theorem x_tChannelMachine_45 : x_okT (vx_atS "ChannelMachine" 45 "java/lang/IllegalStateException" x_up2) = true := by decide +kernel
theorem d_CM_variable_0 : decode prog_1_method_8_code 0 = .ok (.iload_n 1, 1) := by decide +kernel
theorem d_CM_variable_1 : decode prog_1_method_8_code 1 = .ok (.ifCond .lt 9, 3) := by decide +kernel
theorem d_CM_variable_4 : decode prog_1_method_8_code 4 = .ok (.iload_n 1, 1) := by decide +kernel
theorem d_CM_variable_5 : decode prog_1_method_8_code 5 = .ok (.bipush 6, 2) := by decide +kernel
theorem d_CM_variable_7 : decode prog_1_method_8_code 7 = .ok (.if_icmp .lt 13, 3) := by decide +kernel
theorem d_CM_variable_10 : decode prog_1_method_8_code 10 = .ok (.new 31, 3) := by decide +kernel
theorem d_CM_variable_13 : decode prog_1_method_8_code 13 = .ok (.dup, 1) := by decide +kernel
theorem d_CM_variable_14 : decode prog_1_method_8_code 14 = .ok (.ldc 122, 2) := by decide +kernel
theorem d_CM_variable_16 : decode prog_1_method_8_code 16 = .ok (.invokespecial 35, 3) := by decide +kernel
theorem d_CM_variable_19 : decode prog_1_method_8_code 19 = .ok (.athrow, 1) := by decide +kernel
theorem d_CM_variable_20 : decode prog_1_method_8_code 20 = .ok (.aload_n 0, 1) := by decide +kernel
theorem d_CM_variable_21 : decode prog_1_method_8_code 21 = .ok (.getfield 19, 3) := by decide +kernel
theorem d_CM_variable_24 : decode prog_1_method_8_code 24 = .ok (.getfield 124, 3) := by decide +kernel
theorem d_CM_variable_27 : decode prog_1_method_8_code 27 = .ok (.iload_n 1, 1) := by decide +kernel
theorem d_CM_variable_28 : decode prog_1_method_8_code 28 = .ok (.iaload, 1) := by decide +kernel
theorem d_CM_variable_29 : decode prog_1_method_8_code 29 = .ok (.ireturn, 1) := by decide +kernel
theorem d_CM_set_0 : decode prog_1_method_9_code 0 = .ok (.iload_n 1, 1) := by decide +kernel
theorem d_CM_set_1 : decode prog_1_method_9_code 1 = .ok (.ifCond .lt 9, 3) := by decide +kernel
theorem d_CM_set_4 : decode prog_1_method_9_code 4 = .ok (.iload_n 1, 1) := by decide +kernel
theorem d_CM_set_5 : decode prog_1_method_9_code 5 = .ok (.bipush 6, 2) := by decide +kernel
theorem d_CM_set_7 : decode prog_1_method_9_code 7 = .ok (.if_icmp .lt 13, 3) := by decide +kernel
theorem d_CM_set_10 : decode prog_1_method_9_code 10 = .ok (.new 31, 3) := by decide +kernel
theorem d_CM_set_13 : decode prog_1_method_9_code 13 = .ok (.dup, 1) := by decide +kernel
theorem d_CM_set_14 : decode prog_1_method_9_code 14 = .ok (.ldc 122, 2) := by decide +kernel
theorem d_CM_set_16 : decode prog_1_method_9_code 16 = .ok (.invokespecial 35, 3) := by decide +kernel
theorem d_CM_set_19 : decode prog_1_method_9_code 19 = .ok (.athrow, 1) := by decide +kernel
theorem d_CM_set_20 : decode prog_1_method_9_code 20 = .ok (.aload_n 0, 1) := by decide +kernel
theorem d_CM_set_21 : decode prog_1_method_9_code 21 = .ok (.getfield 19, 3) := by decide +kernel
theorem d_CM_set_24 : decode prog_1_method_9_code 24 = .ok (.getfield 124, 3) := by decide +kernel
theorem d_CM_set_27 : decode prog_1_method_9_code 27 = .ok (.iload_n 1, 1) := by decide +kernel
theorem d_CM_set_28 : decode prog_1_method_9_code 28 = .ok (.iload_n 2, 1) := by decide +kernel
theorem d_CM_set_29 : decode prog_1_method_9_code 29 = .ok (.iastore, 1) := by decide +kernel
theorem d_CM_set_30 : decode prog_1_method_9_code 30 = .ok (.return_, 1) := by decide +kernel
theorem d_CM_give_0 : decode prog_1_method_6_code 0 = .ok (.aload_n 0, 1) := by decide +kernel
theorem d_CM_give_1 : decode prog_1_method_6_code 1 = .ok (.getfield 19, 3) := by decide +kernel
theorem d_CM_give_4 : decode prog_1_method_6_code 4 = .ok (.getfield 83, 3) := by decide +kernel
theorem d_CM_give_7 : decode prog_1_method_6_code 7 = .ok (.iconst 1, 1) := by decide +kernel
theorem d_CM_give_8 : decode prog_1_method_6_code 8 = .ok (.if_icmp .eq 13, 3) := by decide +kernel
theorem d_CM_give_11 : decode prog_1_method_6_code 11 = .ok (.new 41, 3) := by decide +kernel
theorem d_CM_give_14 : decode prog_1_method_6_code 14 = .ok (.dup, 1) := by decide +kernel
theorem d_CM_give_15 : decode prog_1_method_6_code 15 = .ok (.ldc 86, 2) := by decide +kernel
theorem d_CM_give_17 : decode prog_1_method_6_code 17 = .ok (.invokespecial 45, 3) := by decide +kernel
theorem d_CM_give_20 : decode prog_1_method_6_code 20 = .ok (.athrow, 1) := by decide +kernel
theorem d_CM_give_21 : decode prog_1_method_6_code 21 = .ok (.aload_n 0, 1) := by decide +kernel
theorem d_CM_give_22 : decode prog_1_method_6_code 22 = .ok (.getfield 19, 3) := by decide +kernel
theorem d_CM_give_25 : decode prog_1_method_6_code 25 = .ok (.getfield 92, 3) := by decide +kernel
theorem d_CM_give_28 : decode prog_1_method_6_code 28 = .ok (.invokevirtual 96, 3) := by decide +kernel
theorem d_CM_give_31 : decode prog_1_method_6_code 31 = .ok (.ifCond .eq 13, 3) := by decide +kernel
theorem d_CM_give_34 : decode prog_1_method_6_code 34 = .ok (.new 41, 3) := by decide +kernel
theorem d_CM_give_37 : decode prog_1_method_6_code 37 = .ok (.dup, 1) := by decide +kernel
theorem d_CM_give_38 : decode prog_1_method_6_code 38 = .ok (.ldc 101, 2) := by decide +kernel
theorem d_CM_give_40 : decode prog_1_method_6_code 40 = .ok (.invokespecial 45, 3) := by decide +kernel
theorem d_CM_give_43 : decode prog_1_method_6_code 43 = .ok (.athrow, 1) := by decide +kernel
theorem d_CM_give_44 : decode prog_1_method_6_code 44 = .ok (.aload_n 0, 1) := by decide +kernel
theorem d_CM_give_45 : decode prog_1_method_6_code 45 = .ok (.getfield 19, 3) := by decide +kernel
theorem d_CM_give_48 : decode prog_1_method_6_code 48 = .ok (.iload_n 1, 1) := by decide +kernel
theorem d_CM_give_49 : decode prog_1_method_6_code 49 = .ok (.invokevirtual 103, 3) := by decide +kernel
theorem d_CM_give_52 : decode prog_1_method_6_code 52 = .ok (.aload_n 0, 1) := by decide +kernel
theorem d_CM_give_53 : decode prog_1_method_6_code 53 = .ok (.getfield 19, 3) := by decide +kernel
theorem d_CM_give_56 : decode prog_1_method_6_code 56 = .ok (.getfield 92, 3) := by decide +kernel
theorem d_CM_give_59 : decode prog_1_method_6_code 59 = .ok (.getfield 107, 3) := by decide +kernel
theorem d_CM_give_62 : decode prog_1_method_6_code 62 = .ok (.ireturn, 1) := by decide +kernel
theorem d_CM_run_0 : decode prog_1_method_5_code 0 = .ok (.iload_n 1, 1) := by decide +kernel
theorem d_CM_run_1 : decode prog_1_method_5_code 1 = .ok (.iconst 1, 1) := by decide +kernel
theorem d_CM_run_2 : decode prog_1_method_5_code 2 = .ok (.if_icmp .lt 10, 3) := by decide +kernel
theorem d_CM_run_5 : decode prog_1_method_5_code 5 = .ok (.iload_n 1, 1) := by decide +kernel
theorem d_CM_run_6 : decode prog_1_method_5_code 6 = .ok (.sipush 200, 3) := by decide +kernel
theorem d_CM_run_9 : decode prog_1_method_5_code 9 = .ok (.if_icmp .le 13, 3) := by decide +kernel
theorem d_CM_run_12 : decode prog_1_method_5_code 12 = .ok (.new 31, 3) := by decide +kernel
theorem d_CM_run_15 : decode prog_1_method_5_code 15 = .ok (.dup, 1) := by decide +kernel
theorem d_CM_run_16 : decode prog_1_method_5_code 16 = .ok (.ldc 81, 2) := by decide +kernel
theorem d_CM_run_18 : decode prog_1_method_5_code 18 = .ok (.invokespecial 35, 3) := by decide +kernel
theorem d_CM_run_21 : decode prog_1_method_5_code 21 = .ok (.athrow, 1) := by decide +kernel
theorem d_CM_run_22 : decode prog_1_method_5_code 22 = .ok (.aload_n 0, 1) := by decide +kernel
theorem d_CM_run_23 : decode prog_1_method_5_code 23 = .ok (.getfield 19, 3) := by decide +kernel
theorem d_CM_run_26 : decode prog_1_method_5_code 26 = .ok (.getfield 83, 3) := by decide +kernel
theorem d_CM_run_29 : decode prog_1_method_5_code 29 = .ok (.iconst 1, 1) := by decide +kernel
theorem d_CM_run_30 : decode prog_1_method_5_code 30 = .ok (.if_icmp .eq 13, 3) := by decide +kernel
theorem d_CM_run_33 : decode prog_1_method_5_code 33 = .ok (.new 41, 3) := by decide +kernel
theorem d_CM_run_36 : decode prog_1_method_5_code 36 = .ok (.dup, 1) := by decide +kernel
theorem d_CM_run_37 : decode prog_1_method_5_code 37 = .ok (.ldc 86, 2) := by decide +kernel
theorem d_CM_run_39 : decode prog_1_method_5_code 39 = .ok (.invokespecial 45, 3) := by decide +kernel
theorem d_CM_run_42 : decode prog_1_method_5_code 42 = .ok (.athrow, 1) := by decide +kernel
theorem d_CM_run_43 : decode prog_1_method_5_code 43 = .ok (.aload_n 0, 1) := by decide +kernel
theorem d_CM_run_44 : decode prog_1_method_5_code 44 = .ok (.getfield 19, 3) := by decide +kernel
theorem d_CM_run_47 : decode prog_1_method_5_code 47 = .ok (.iload_n 1, 1) := by decide +kernel
theorem d_CM_run_48 : decode prog_1_method_5_code 48 = .ok (.invokevirtual 88, 3) := by decide +kernel
theorem d_CM_run_51 : decode prog_1_method_5_code 51 = .ok (.ireturn, 1) := by decide +kernel
theorem d_Mo_in_0 : decode prog_12_method_3_code 0 = .ok (.iload_n 0, 1) := by decide +kernel
theorem d_Mo_in_1 : decode prog_12_method_3_code 1 = .ok (.iload_n 1, 1) := by decide +kernel
theorem d_Mo_in_2 : decode prog_12_method_3_code 2 = .ok (.if_icmp .lt 12, 3) := by decide +kernel
theorem d_Mo_in_5 : decode prog_12_method_3_code 5 = .ok (.iload_n 0, 1) := by decide +kernel
theorem d_Mo_in_6 : decode prog_12_method_3_code 6 = .ok (.iload_n 2, 1) := by decide +kernel
theorem d_Mo_in_7 : decode prog_12_method_3_code 7 = .ok (.if_icmp .gt 7, 3) := by decide +kernel
theorem d_Mo_in_10 : decode prog_12_method_3_code 10 = .ok (.iconst 1, 1) := by decide +kernel
theorem d_Mo_in_11 : decode prog_12_method_3_code 11 = .ok (.goto 4, 3) := by decide +kernel
theorem d_Mo_in_14 : decode prog_12_method_3_code 14 = .ok (.iconst 0, 1) := by decide +kernel
theorem d_Mo_in_15 : decode prog_12_method_3_code 15 = .ok (.ireturn, 1) := by decide +kernel
theorem d_Mo_bad_0 : decode prog_12_method_4_code 0 = .ok (.aload_n 0, 1) := by decide +kernel
theorem d_Mo_bad_1 : decode prog_12_method_4_code 1 = .ok (.iload_n 1, 1) := by decide +kernel
theorem d_Mo_bad_2 : decode prog_12_method_4_code 2 = .ok (.ifCond .eq 7, 3) := by decide +kernel
theorem d_Mo_bad_5 : decode prog_12_method_4_code 5 = .ok (.iconst 0, 1) := by decide +kernel
theorem d_Mo_bad_6 : decode prog_12_method_4_code 6 = .ok (.goto 4, 3) := by decide +kernel
theorem d_Mo_bad_9 : decode prog_12_method_4_code 9 = .ok (.iconst 1, 1) := by decide +kernel
theorem d_Mo_bad_10 : decode prog_12_method_4_code 10 = .ok (.putfield 103, 3) := by decide +kernel
theorem d_Mo_bad_13 : decode prog_12_method_4_code 13 = .ok (.iload_n 1, 1) := by decide +kernel
theorem d_Mo_bad_14 : decode prog_12_method_4_code 14 = .ok (.ifCond .ne 7, 3) := by decide +kernel
theorem d_Mo_bad_17 : decode prog_12_method_4_code 17 = .ok (.iconst 1, 1) := by decide +kernel
theorem d_Mo_bad_18 : decode prog_12_method_4_code 18 = .ok (.goto 4, 3) := by decide +kernel
theorem d_Mo_bad_21 : decode prog_12_method_4_code 21 = .ok (.iconst 0, 1) := by decide +kernel
theorem d_Mo_bad_22 : decode prog_12_method_4_code 22 = .ok (.ireturn, 1) := by decide +kernel
theorem d_Mo_fail_0 : decode prog_12_method_5_code 0 = .ok (.aload_n 0, 1) := by decide +kernel
theorem d_Mo_fail_1 : decode prog_12_method_5_code 1 = .ok (.iload_n 1, 1) := by decide +kernel
theorem d_Mo_fail_2 : decode prog_12_method_5_code 2 = .ok (.putfield 103, 3) := by decide +kernel
theorem d_Mo_fail_5 : decode prog_12_method_5_code 5 = .ok (.iconst 0, 1) := by decide +kernel
theorem d_Mo_fail_6 : decode prog_12_method_5_code 6 = .ok (.ireturn, 1) := by decide +kernel
theorem d_Mo_variable_0 : decode prog_12_method_45_code 0 = .ok (.aload_n 0, 1) := by decide +kernel
theorem d_Mo_variable_1 : decode prog_12_method_45_code 1 = .ok (.iload_n 1, 1) := by decide +kernel
theorem d_Mo_variable_2 : decode prog_12_method_45_code 2 = .ok (.iconst 0, 1) := by decide +kernel
theorem d_Mo_variable_3 : decode prog_12_method_45_code 3 = .ok (.iconst 5, 1) := by decide +kernel
theorem d_Mo_variable_4 : decode prog_12_method_45_code 4 = .ok (.invokestatic 106, 3) := by decide +kernel
theorem d_Mo_variable_7 : decode prog_12_method_45_code 7 = .ok (.invokevirtual 110, 3) := by decide +kernel
theorem d_Mo_variable_10 : decode prog_12_method_45_code 10 = .ok (.ifCond .eq 5, 3) := by decide +kernel
theorem d_Mo_variable_13 : decode prog_12_method_45_code 13 = .ok (.iconst 0, 1) := by decide +kernel
theorem d_Mo_variable_14 : decode prog_12_method_45_code 14 = .ok (.ireturn, 1) := by decide +kernel
theorem d_Mo_variable_15 : decode prog_12_method_45_code 15 = .ok (.aload_n 0, 1) := by decide +kernel
theorem d_Mo_variable_16 : decode prog_12_method_45_code 16 = .ok (.getfield 19, 3) := by decide +kernel
theorem d_Mo_variable_19 : decode prog_12_method_45_code 19 = .ok (.iload_n 1, 1) := by decide +kernel
theorem d_Mo_variable_20 : decode prog_12_method_45_code 20 = .ok (.iaload, 1) := by decide +kernel
theorem d_Mo_variable_21 : decode prog_12_method_45_code 21 = .ok (.ireturn, 1) := by decide +kernel
theorem d_Mo_set_0 : decode prog_12_method_46_code 0 = .ok (.aload_n 0, 1) := by decide +kernel
theorem d_Mo_set_1 : decode prog_12_method_46_code 1 = .ok (.iload_n 1, 1) := by decide +kernel
theorem d_Mo_set_2 : decode prog_12_method_46_code 2 = .ok (.iconst 0, 1) := by decide +kernel
theorem d_Mo_set_3 : decode prog_12_method_46_code 3 = .ok (.iconst 5, 1) := by decide +kernel
theorem d_Mo_set_4 : decode prog_12_method_46_code 4 = .ok (.invokestatic 106, 3) := by decide +kernel
theorem d_Mo_set_7 : decode prog_12_method_46_code 7 = .ok (.invokevirtual 110, 3) := by decide +kernel
theorem d_Mo_set_10 : decode prog_12_method_46_code 10 = .ok (.ifCond .eq 4, 3) := by decide +kernel
theorem d_Mo_set_13 : decode prog_12_method_46_code 13 = .ok (.return_, 1) := by decide +kernel
theorem d_Mo_set_14 : decode prog_12_method_46_code 14 = .ok (.aload_n 0, 1) := by decide +kernel
theorem d_Mo_set_15 : decode prog_12_method_46_code 15 = .ok (.getfield 19, 3) := by decide +kernel
theorem d_Mo_set_18 : decode prog_12_method_46_code 18 = .ok (.iload_n 1, 1) := by decide +kernel
theorem d_Mo_set_19 : decode prog_12_method_46_code 19 = .ok (.iload_n 2, 1) := by decide +kernel
theorem d_Mo_set_20 : decode prog_12_method_46_code 20 = .ok (.iastore, 1) := by decide +kernel
theorem d_Mo_set_21 : decode prog_12_method_46_code 21 = .ok (.return_, 1) := by decide +kernel
theorem d_Mo_channel_0 : decode prog_12_method_47_code 0 = .ok (.aload_n 0, 1) := by decide +kernel
theorem d_Mo_channel_1 : decode prog_12_method_47_code 1 = .ok (.iload_n 1, 1) := by decide +kernel
theorem d_Mo_channel_2 : decode prog_12_method_47_code 2 = .ok (.iconst 0, 1) := by decide +kernel
theorem d_Mo_channel_3 : decode prog_12_method_47_code 3 = .ok (.iconst 5, 1) := by decide +kernel
theorem d_Mo_channel_4 : decode prog_12_method_47_code 4 = .ok (.invokestatic 106, 3) := by decide +kernel
theorem d_Mo_channel_7 : decode prog_12_method_47_code 7 = .ok (.invokevirtual 110, 3) := by decide +kernel
theorem d_Mo_channel_10 : decode prog_12_method_47_code 10 = .ok (.ifCond .ne 11, 3) := by decide +kernel
theorem d_Mo_channel_13 : decode prog_12_method_47_code 13 = .ok (.aload_n 0, 1) := by decide +kernel
theorem d_Mo_channel_14 : decode prog_12_method_47_code 14 = .ok (.getfield 208, 3) := by decide +kernel
theorem d_Mo_channel_17 : decode prog_12_method_47_code 17 = .ok (.iconst 1, 1) := by decide +kernel
theorem d_Mo_channel_18 : decode prog_12_method_47_code 18 = .ok (.if_icmp .eq 5, 3) := by decide +kernel
theorem d_Mo_channel_21 : decode prog_12_method_47_code 21 = .ok (.iconst 0, 1) := by decide +kernel
theorem d_Mo_channel_22 : decode prog_12_method_47_code 22 = .ok (.ireturn, 1) := by decide +kernel
theorem d_Mo_channel_23 : decode prog_12_method_47_code 23 = .ok (.aload_n 0, 1) := by decide +kernel
theorem d_Mo_channel_24 : decode prog_12_method_47_code 24 = .ok (.getfield 82, 3) := by decide +kernel
theorem d_Mo_channel_27 : decode prog_12_method_47_code 27 = .ok (.iload_n 1, 1) := by decide +kernel
theorem d_Mo_channel_28 : decode prog_12_method_47_code 28 = .ok (.iaload, 1) := by decide +kernel
theorem d_Mo_channel_29 : decode prog_12_method_47_code 29 = .ok (.ifCond .lt 7, 3) := by decide +kernel
theorem d_Mo_channel_32 : decode prog_12_method_47_code 32 = .ok (.iconst 1, 1) := by decide +kernel
theorem d_Mo_channel_33 : decode prog_12_method_47_code 33 = .ok (.goto 17, 3) := by decide +kernel
theorem d_Mo_channel_36 : decode prog_12_method_47_code 36 = .ok (.aload_n 0, 1) := by decide +kernel
theorem d_Mo_channel_37 : decode prog_12_method_47_code 37 = .ok (.getfield 91, 3) := by decide +kernel
theorem d_Mo_channel_40 : decode prog_12_method_47_code 40 = .ok (.iload_n 1, 1) := by decide +kernel
theorem d_Mo_channel_41 : decode prog_12_method_47_code 41 = .ok (.iaload, 1) := by decide +kernel
theorem d_Mo_channel_42 : decode prog_12_method_47_code 42 = .ok (.ifCond .lt 7, 3) := by decide +kernel
theorem d_Mo_channel_45 : decode prog_12_method_47_code 45 = .ok (.iconst 2, 1) := by decide +kernel
theorem d_Mo_channel_46 : decode prog_12_method_47_code 46 = .ok (.goto 4, 3) := by decide +kernel
theorem d_Mo_channel_49 : decode prog_12_method_47_code 49 = .ok (.iconst 0, 1) := by decide +kernel
theorem d_Mo_channel_50 : decode prog_12_method_47_code 50 = .ok (.ireturn, 1) := by decide +kernel
theorem d_Mo_take_0 : decode prog_12_method_44_code 0 = .ok (.aload_n 0, 1) := by decide +kernel
theorem d_Mo_take_1 : decode prog_12_method_44_code 1 = .ok (.iconst 0, 1) := by decide +kernel
theorem d_Mo_take_2 : decode prog_12_method_44_code 2 = .ok (.putfield 103, 3) := by decide +kernel
theorem d_Mo_take_5 : decode prog_12_method_44_code 5 = .ok (.aload_n 0, 1) := by decide +kernel
theorem d_Mo_take_6 : decode prog_12_method_44_code 6 = .ok (.getfield 195, 3) := by decide +kernel
theorem d_Mo_take_9 : decode prog_12_method_44_code 9 = .ok (.ifCond .ne 9, 3) := by decide +kernel
theorem d_Mo_take_12 : decode prog_12_method_44_code 12 = .ok (.aload_n 0, 1) := by decide +kernel
theorem d_Mo_take_13 : decode prog_12_method_44_code 13 = .ok (.iconst 1, 1) := by decide +kernel
theorem d_Mo_take_14 : decode prog_12_method_44_code 14 = .ok (.invokevirtual 117, 3) := by decide +kernel
theorem d_Mo_take_17 : decode prog_12_method_44_code 17 = .ok (.ireturn, 1) := by decide +kernel
theorem d_Mo_take_18 : decode prog_12_method_44_code 18 = .ok (.aload_n 0, 1) := by decide +kernel
theorem d_Mo_take_19 : decode prog_12_method_44_code 19 = .ok (.getfield 100, 3) := by decide +kernel
theorem d_Mo_take_22 : decode prog_12_method_44_code 22 = .ok (.aload_n 0, 1) := by decide +kernel
theorem d_Mo_take_23 : decode prog_12_method_44_code 23 = .ok (.getfield 195, 3) := by decide +kernel
theorem d_Mo_take_26 : decode prog_12_method_44_code 26 = .ok (.invokestatic 217, 3) := by decide +kernel
theorem d_Mo_take_29 : decode prog_12_method_44_code 29 = .ok (.istore_n 1, 1) := by decide +kernel
theorem d_Mo_take_30 : decode prog_12_method_44_code 30 = .ok (.aload_n 0, 1) := by decide +kernel
theorem d_Mo_take_31 : decode prog_12_method_44_code 31 = .ok (.dup, 1) := by decide +kernel
theorem d_Mo_take_32 : decode prog_12_method_44_code 32 = .ok (.getfield 195, 3) := by decide +kernel
theorem d_Mo_take_35 : decode prog_12_method_44_code 35 = .ok (.iconst 1, 1) := by decide +kernel
theorem d_Mo_take_36 : decode prog_12_method_44_code 36 = .ok (.isub, 1) := by decide +kernel
theorem d_Mo_take_37 : decode prog_12_method_44_code 37 = .ok (.putfield 195, 3) := by decide +kernel
theorem d_Mo_take_40 : decode prog_12_method_44_code 40 = .ok (.aload_n 0, 1) := by decide +kernel
theorem d_Mo_take_41 : decode prog_12_method_44_code 41 = .ok (.getfield 208, 3) := by decide +kernel
theorem d_Mo_take_44 : decode prog_12_method_44_code 44 = .ok (.iconst 1, 1) := by decide +kernel
theorem d_Mo_take_45 : decode prog_12_method_44_code 45 = .ok (.if_icmp .ne 12, 3) := by decide +kernel
theorem d_Mo_take_48 : decode prog_12_method_44_code 48 = .ok (.aload_n 0, 1) := by decide +kernel
theorem d_Mo_take_49 : decode prog_12_method_44_code 49 = .ok (.getfield 91, 3) := by decide +kernel
theorem d_Mo_take_52 : decode prog_12_method_44_code 52 = .ok (.iconst 5, 1) := by decide +kernel
theorem d_Mo_take_53 : decode prog_12_method_44_code 53 = .ok (.iaload, 1) := by decide +kernel
theorem d_Mo_take_54 : decode prog_12_method_44_code 54 = .ok (.ifCond .ge 5, 3) := by decide +kernel
theorem d_Mo_take_57 : decode prog_12_method_44_code 57 = .ok (.iload_n 1, 1) := by decide +kernel
theorem d_Mo_take_58 : decode prog_12_method_44_code 58 = .ok (.ireturn, 1) := by decide +kernel
theorem d_Mo_take_59 : decode prog_12_method_44_code 59 = .ok (.aload_n 0, 1) := by decide +kernel
theorem d_Mo_take_60 : decode prog_12_method_44_code 60 = .ok (.getfield 100, 3) := by decide +kernel
theorem d_Mo_take_63 : decode prog_12_method_44_code 63 = .ok (.aload_n 0, 1) := by decide +kernel
theorem d_Mo_take_64 : decode prog_12_method_44_code 64 = .ok (.getfield 195, 3) := by decide +kernel
theorem d_Mo_take_67 : decode prog_12_method_44_code 67 = .ok (.aload_n 0, 1) := by decide +kernel
theorem d_Mo_take_68 : decode prog_12_method_44_code 68 = .ok (.getfield 94, 3) := by decide +kernel
theorem d_Mo_take_71 : decode prog_12_method_44_code 71 = .ok (.iconst 5, 1) := by decide +kernel
theorem d_Mo_take_72 : decode prog_12_method_44_code 72 = .ok (.iaload, 1) := by decide +kernel
theorem d_Mo_take_73 : decode prog_12_method_44_code 73 = .ok (.iastore, 1) := by decide +kernel
theorem d_Mo_take_74 : decode prog_12_method_44_code 74 = .ok (.aload_n 0, 1) := by decide +kernel
theorem d_Mo_take_75 : decode prog_12_method_44_code 75 = .ok (.dup, 1) := by decide +kernel
theorem d_Mo_take_76 : decode prog_12_method_44_code 76 = .ok (.getfield 195, 3) := by decide +kernel
theorem d_Mo_take_79 : decode prog_12_method_44_code 79 = .ok (.iconst 1, 1) := by decide +kernel
theorem d_Mo_take_80 : decode prog_12_method_44_code 80 = .ok (.iadd, 1) := by decide +kernel
theorem d_Mo_take_81 : decode prog_12_method_44_code 81 = .ok (.putfield 195, 3) := by decide +kernel
theorem d_Mo_take_84 : decode prog_12_method_44_code 84 = .ok (.aload_n 0, 1) := by decide +kernel
theorem d_Mo_take_85 : decode prog_12_method_44_code 85 = .ok (.aload_n 0, 1) := by decide +kernel
theorem d_Mo_take_86 : decode prog_12_method_44_code 86 = .ok (.getfield 91, 3) := by decide +kernel
theorem d_Mo_take_89 : decode prog_12_method_44_code 89 = .ok (.iconst 5, 1) := by decide +kernel
theorem d_Mo_take_90 : decode prog_12_method_44_code 90 = .ok (.iaload, 1) := by decide +kernel
theorem d_Mo_take_91 : decode prog_12_method_44_code 91 = .ok (.invokevirtual 214, 3) := by decide +kernel
theorem d_Mo_take_94 : decode prog_12_method_44_code 94 = .ok (.aload_n 0, 1) := by decide +kernel
theorem d_Mo_take_95 : decode prog_12_method_44_code 95 = .ok (.getfield 91, 3) := by decide +kernel
theorem d_Mo_take_98 : decode prog_12_method_44_code 98 = .ok (.iconst 5, 1) := by decide +kernel
theorem d_Mo_take_99 : decode prog_12_method_44_code 99 = .ok (.iconst (-1), 1) := by decide +kernel
theorem d_Mo_take_100 : decode prog_12_method_44_code 100 = .ok (.iastore, 1) := by decide +kernel
theorem d_Mo_take_101 : decode prog_12_method_44_code 101 = .ok (.iload_n 1, 1) := by decide +kernel
theorem d_Mo_take_102 : decode prog_12_method_44_code 102 = .ok (.ireturn, 1) := by decide +kernel
theorem d_Mo_give_0 : decode prog_12_method_43_code 0 = .ok (.aload_n 0, 1) := by decide +kernel
theorem d_Mo_give_1 : decode prog_12_method_43_code 1 = .ok (.iconst 0, 1) := by decide +kernel
theorem d_Mo_give_2 : decode prog_12_method_43_code 2 = .ok (.putfield 103, 3) := by decide +kernel
theorem d_Mo_give_5 : decode prog_12_method_43_code 5 = .ok (.aload_n 0, 1) := by decide +kernel
theorem d_Mo_give_6 : decode prog_12_method_43_code 6 = .ok (.getfield 208, 3) := by decide +kernel
theorem d_Mo_give_9 : decode prog_12_method_43_code 9 = .ok (.iconst 1, 1) := by decide +kernel
theorem d_Mo_give_10 : decode prog_12_method_43_code 10 = .ok (.if_icmp .ne 12, 3) := by decide +kernel
theorem d_Mo_give_13 : decode prog_12_method_43_code 13 = .ok (.aload_n 0, 1) := by decide +kernel
theorem d_Mo_give_14 : decode prog_12_method_43_code 14 = .ok (.getfield 198, 3) := by decide +kernel
theorem d_Mo_give_17 : decode prog_12_method_43_code 17 = .ok (.bipush 8, 2) := by decide +kernel
theorem d_Mo_give_19 : decode prog_12_method_43_code 19 = .ok (.if_icmp .ne 9, 3) := by decide +kernel
theorem d_Mo_give_22 : decode prog_12_method_43_code 22 = .ok (.aload_n 0, 1) := by decide +kernel
theorem d_Mo_give_23 : decode prog_12_method_43_code 23 = .ok (.iconst 1, 1) := by decide +kernel
theorem d_Mo_give_24 : decode prog_12_method_43_code 24 = .ok (.invokevirtual 117, 3) := by decide +kernel
theorem d_Mo_give_27 : decode prog_12_method_43_code 27 = .ok (.ireturn, 1) := by decide +kernel
theorem d_Mo_give_28 : decode prog_12_method_43_code 28 = .ok (.aload_n 0, 1) := by decide +kernel
theorem d_Mo_give_29 : decode prog_12_method_43_code 29 = .ok (.getfield 82, 3) := by decide +kernel
theorem d_Mo_give_32 : decode prog_12_method_43_code 32 = .ok (.iconst 4, 1) := by decide +kernel
theorem d_Mo_give_33 : decode prog_12_method_43_code 33 = .ok (.iaload, 1) := by decide +kernel
theorem d_Mo_give_34 : decode prog_12_method_43_code 34 = .ok (.ifCond .lt 12, 3) := by decide +kernel
theorem d_Mo_give_37 : decode prog_12_method_43_code 37 = .ok (.aload_n 0, 1) := by decide +kernel
theorem d_Mo_give_38 : decode prog_12_method_43_code 38 = .ok (.iconst 4, 1) := by decide +kernel
theorem d_Mo_give_39 : decode prog_12_method_43_code 39 = .ok (.iload_n 1, 1) := by decide +kernel
theorem d_Mo_give_40 : decode prog_12_method_43_code 40 = .ok (.invokevirtual 236, 3) := by decide +kernel
theorem d_Mo_give_43 : decode prog_12_method_43_code 43 = .ok (.goto 23, 3) := by decide +kernel
theorem d_Mo_give_46 : decode prog_12_method_43_code 46 = .ok (.aload_n 0, 1) := by decide +kernel
theorem d_Mo_give_47 : decode prog_12_method_43_code 47 = .ok (.getfield 97, 3) := by decide +kernel
theorem d_Mo_give_50 : decode prog_12_method_43_code 50 = .ok (.aload_n 0, 1) := by decide +kernel
theorem d_Mo_give_51 : decode prog_12_method_43_code 51 = .ok (.getfield 198, 3) := by decide +kernel
theorem d_Mo_give_54 : decode prog_12_method_43_code 54 = .ok (.iload_n 1, 1) := by decide +kernel
theorem d_Mo_give_55 : decode prog_12_method_43_code 55 = .ok (.iastore, 1) := by decide +kernel
theorem d_Mo_give_56 : decode prog_12_method_43_code 56 = .ok (.aload_n 0, 1) := by decide +kernel
theorem d_Mo_give_57 : decode prog_12_method_43_code 57 = .ok (.dup, 1) := by decide +kernel
theorem d_Mo_give_58 : decode prog_12_method_43_code 58 = .ok (.getfield 198, 3) := by decide +kernel
theorem d_Mo_give_61 : decode prog_12_method_43_code 61 = .ok (.iconst 1, 1) := by decide +kernel
theorem d_Mo_give_62 : decode prog_12_method_43_code 62 = .ok (.iadd, 1) := by decide +kernel
theorem d_Mo_give_63 : decode prog_12_method_43_code 63 = .ok (.putfield 198, 3) := by decide +kernel
theorem d_Mo_give_66 : decode prog_12_method_43_code 66 = .ok (.aload_n 0, 1) := by decide +kernel
theorem d_Mo_give_67 : decode prog_12_method_43_code 67 = .ok (.getfield 198, 3) := by decide +kernel
theorem d_Mo_give_70 : decode prog_12_method_43_code 70 = .ok (.ireturn, 1) := by decide +kernel
theorem d_Mo_run_0 : decode prog_12_method_42_code 0 = .ok (.aload_n 0, 1) := by decide +kernel
theorem d_Mo_run_1 : decode prog_12_method_42_code 1 = .ok (.iload_n 1, 1) := by decide +kernel
theorem d_Mo_run_2 : decode prog_12_method_42_code 2 = .ok (.iconst 1, 1) := by decide +kernel
theorem d_Mo_run_3 : decode prog_12_method_42_code 3 = .ok (.sipush 200, 3) := by decide +kernel
theorem d_Mo_run_6 : decode prog_12_method_42_code 6 = .ok (.invokestatic 106, 3) := by decide +kernel
theorem d_Mo_run_9 : decode prog_12_method_42_code 9 = .ok (.invokevirtual 110, 3) := by decide +kernel
theorem d_Mo_run_12 : decode prog_12_method_42_code 12 = .ok (.ifCond .eq 5, 3) := by decide +kernel
theorem d_Mo_run_15 : decode prog_12_method_42_code 15 = .ok (.iconst 0, 1) := by decide +kernel
theorem d_Mo_run_16 : decode prog_12_method_42_code 16 = .ok (.ireturn, 1) := by decide +kernel
theorem d_Mo_run_17 : decode prog_12_method_42_code 17 = .ok (.aload_n 0, 1) := by decide +kernel
theorem d_Mo_run_18 : decode prog_12_method_42_code 18 = .ok (.getfield 208, 3) := by decide +kernel
theorem d_Mo_run_21 : decode prog_12_method_42_code 21 = .ok (.iconst 1, 1) := by decide +kernel
theorem d_Mo_run_22 : decode prog_12_method_42_code 22 = .ok (.if_icmp .eq 9, 3) := by decide +kernel
theorem d_Mo_run_25 : decode prog_12_method_42_code 25 = .ok (.aload_n 0, 1) := by decide +kernel
theorem d_Mo_run_26 : decode prog_12_method_42_code 26 = .ok (.iconst 2, 1) := by decide +kernel
theorem d_Mo_run_27 : decode prog_12_method_42_code 27 = .ok (.invokevirtual 117, 3) := by decide +kernel
theorem d_Mo_run_30 : decode prog_12_method_42_code 30 = .ok (.ireturn, 1) := by decide +kernel
theorem d_Mo_run_31 : decode prog_12_method_42_code 31 = .ok (.aload_n 0, 1) := by decide +kernel
theorem d_Mo_run_32 : decode prog_12_method_42_code 32 = .ok (.getfield 192, 3) := by decide +kernel
theorem d_Mo_run_35 : decode prog_12_method_42_code 35 = .ok (.istore_n 2, 1) := by decide +kernel
theorem d_Mo_run_36 : decode prog_12_method_42_code 36 = .ok (.aload_n 0, 1) := by decide +kernel
theorem d_Mo_run_37 : decode prog_12_method_42_code 37 = .ok (.iload_n 1, 1) := by decide +kernel
theorem d_Mo_run_38 : decode prog_12_method_42_code 38 = .ok (.iload_n 2, 1) := by decide +kernel
theorem d_Mo_run_39 : decode prog_12_method_42_code 39 = .ok (.invokevirtual 268, 3) := by decide +kernel
theorem d_Mo_run_42 : decode prog_12_method_42_code 42 = .ok (.istore_n 3, 1) := by decide +kernel
theorem d_Mo_run_43 : decode prog_12_method_42_code 43 = .ok (.iload_n 3, 1) := by decide +kernel
theorem d_Mo_run_44 : decode prog_12_method_42_code 44 = .ok (.ifCond .lt 5, 3) := by decide +kernel
theorem d_Mo_run_47 : decode prog_12_method_42_code 47 = .ok (.iload_n 3, 1) := by decide +kernel
theorem d_Mo_run_48 : decode prog_12_method_42_code 48 = .ok (.ireturn, 1) := by decide +kernel
theorem d_Mo_run_49 : decode prog_12_method_42_code 49 = .ok (.aload_n 0, 1) := by decide +kernel
theorem d_Mo_run_50 : decode prog_12_method_42_code 50 = .ok (.getfield 103, 3) := by decide +kernel
theorem d_Mo_run_53 : decode prog_12_method_42_code 53 = .ok (.ifCond .ne 14, 3) := by decide +kernel
theorem d_Mo_run_56 : decode prog_12_method_42_code 56 = .ok (.aload_n 0, 1) := by decide +kernel
theorem d_Mo_run_57 : decode prog_12_method_42_code 57 = .ok (.getfield 79, 3) := by decide +kernel
theorem d_Mo_run_60 : decode prog_12_method_42_code 60 = .ok (.ifCond .lt 7, 3) := by decide +kernel
theorem d_Mo_run_63 : decode prog_12_method_42_code 63 = .ok (.aload_n 0, 1) := by decide +kernel
theorem d_Mo_run_64 : decode prog_12_method_42_code 64 = .ok (.invokevirtual 272, 3) := by decide +kernel
theorem d_Mo_run_67 : decode prog_12_method_42_code 67 = .ok (.aload_n 0, 1) := by decide +kernel
theorem d_Mo_run_68 : decode prog_12_method_42_code 68 = .ok (.getfield 103, 3) := by decide +kernel
theorem d_Mo_run_71 : decode prog_12_method_42_code 71 = .ok (.ifCond .ne 6, 3) := by decide +kernel
theorem d_Mo_run_74 : decode prog_12_method_42_code 74 = .ok (.goto (-38), 3) := by decide +kernel
theorem d_Mo_run_77 : decode prog_12_method_42_code 77 = .ok (.aload_n 0, 1) := by decide +kernel
theorem d_Mo_run_78 : decode prog_12_method_42_code 78 = .ok (.iconst 3, 1) := by decide +kernel
theorem d_Mo_run_79 : decode prog_12_method_42_code 79 = .ok (.putfield 208, 3) := by decide +kernel
theorem d_Mo_run_82 : decode prog_12_method_42_code 82 = .ok (.iconst 0, 1) := by decide +kernel
theorem d_Mo_run_83 : decode prog_12_method_42_code 83 = .ok (.ireturn, 1) := by decide +kernel
theorem d_Mo_thrown_0 : decode prog_12_method_2_code 0 = .ok (.aload_n 0, 1) := by decide +kernel
theorem d_Mo_thrown_1 : decode prog_12_method_2_code 1 = .ok (.getfield 103, 3) := by decide +kernel
theorem d_Mo_thrown_4 : decode prog_12_method_2_code 4 = .ok (.ireturn, 1) := by decide +kernel
theorem d_ArrayList_size_0 : decode prog_28_method_8_code 0 = .ok (.aload_n 0, 1) := by decide +kernel
theorem d_ArrayList_size_1 : decode prog_28_method_8_code 1 = .ok (.getfield 48, 3) := by decide +kernel
theorem d_ArrayList_size_4 : decode prog_28_method_8_code 4 = .ok (.ireturn, 1) := by decide +kernel
theorem d_CM_count_0 : decode prog_1_method_11_code 0 = .ok (.iload_n 1, 1) := by decide +kernel
theorem d_CM_count_1 : decode prog_1_method_11_code 1 = .ok (.tableswitch 137 0 8 #[51, 56, 65, 78, 86, 94, 105, 116, 124], 51) := by decide +kernel
theorem d_CM_count_52 : decode prog_1_method_11_code 52 = .ok (.aload_n 0, 1) := by decide +kernel
theorem d_CM_count_53 : decode prog_1_method_11_code 53 = .ok (.getfield 23, 3) := by decide +kernel
theorem d_CM_count_56 : decode prog_1_method_11_code 56 = .ok (.ireturn, 1) := by decide +kernel
theorem d_CM_count_57 : decode prog_1_method_11_code 57 = .ok (.aload_n 0, 1) := by decide +kernel
theorem d_CM_count_58 : decode prog_1_method_11_code 58 = .ok (.getfield 19, 3) := by decide +kernel
theorem d_CM_count_61 : decode prog_1_method_11_code 61 = .ok (.getfield 142, 3) := by decide +kernel
theorem d_CM_count_64 : decode prog_1_method_11_code 64 = .ok (.l2i, 1) := by decide +kernel
theorem d_CM_count_65 : decode prog_1_method_11_code 65 = .ok (.ireturn, 1) := by decide +kernel
theorem d_CM_count_66 : decode prog_1_method_11_code 66 = .ok (.aload_n 0, 1) := by decide +kernel
theorem d_CM_count_67 : decode prog_1_method_11_code 67 = .ok (.getfield 19, 3) := by decide +kernel
theorem d_CM_count_70 : decode prog_1_method_11_code 70 = .ok (.getfield 146, 3) := by decide +kernel
theorem d_CM_count_73 : decode prog_1_method_11_code 73 = .ok (.invokeinterface 150 1, 5) := by decide +kernel
theorem d_CM_count_78 : decode prog_1_method_11_code 78 = .ok (.ireturn, 1) := by decide +kernel
theorem d_CM_count_79 : decode prog_1_method_11_code 79 = .ok (.aload_n 0, 1) := by decide +kernel
theorem d_CM_count_80 : decode prog_1_method_11_code 80 = .ok (.getfield 19, 3) := by decide +kernel
theorem d_CM_count_83 : decode prog_1_method_11_code 83 = .ok (.getfield 154, 3) := by decide +kernel
theorem d_CM_count_86 : decode prog_1_method_11_code 86 = .ok (.ireturn, 1) := by decide +kernel
theorem d_CM_count_87 : decode prog_1_method_11_code 87 = .ok (.aload_n 0, 1) := by decide +kernel
theorem d_CM_count_88 : decode prog_1_method_11_code 88 = .ok (.getfield 19, 3) := by decide +kernel
theorem d_CM_count_91 : decode prog_1_method_11_code 91 = .ok (.getfield 157, 3) := by decide +kernel
theorem d_CM_count_94 : decode prog_1_method_11_code 94 = .ok (.ireturn, 1) := by decide +kernel
theorem d_CM_count_95 : decode prog_1_method_11_code 95 = .ok (.aload_n 0, 1) := by decide +kernel
theorem d_CM_count_96 : decode prog_1_method_11_code 96 = .ok (.getfield 19, 3) := by decide +kernel
theorem d_CM_count_99 : decode prog_1_method_11_code 99 = .ok (.getfield 92, 3) := by decide +kernel
theorem d_CM_count_102 : decode prog_1_method_11_code 102 = .ok (.getfield 107, 3) := by decide +kernel
theorem d_CM_count_105 : decode prog_1_method_11_code 105 = .ok (.ireturn, 1) := by decide +kernel
theorem d_CM_count_106 : decode prog_1_method_11_code 106 = .ok (.aload_n 0, 1) := by decide +kernel
theorem d_CM_count_107 : decode prog_1_method_11_code 107 = .ok (.getfield 19, 3) := by decide +kernel
theorem d_CM_count_110 : decode prog_1_method_11_code 110 = .ok (.getfield 110, 3) := by decide +kernel
theorem d_CM_count_113 : decode prog_1_method_11_code 113 = .ok (.getfield 107, 3) := by decide +kernel
theorem d_CM_count_116 : decode prog_1_method_11_code 116 = .ok (.ireturn, 1) := by decide +kernel
theorem d_CM_count_117 : decode prog_1_method_11_code 117 = .ok (.aload_n 0, 1) := by decide +kernel
theorem d_CM_count_118 : decode prog_1_method_11_code 118 = .ok (.getfield 19, 3) := by decide +kernel
theorem d_CM_count_121 : decode prog_1_method_11_code 121 = .ok (.getfield 83, 3) := by decide +kernel
theorem d_CM_count_124 : decode prog_1_method_11_code 124 = .ok (.ireturn, 1) := by decide +kernel
theorem d_CM_count_125 : decode prog_1_method_11_code 125 = .ok (.aload_n 0, 1) := by decide +kernel
theorem d_CM_count_126 : decode prog_1_method_11_code 126 = .ok (.getfield 19, 3) := by decide +kernel
theorem d_CM_count_129 : decode prog_1_method_11_code 129 = .ok (.getfield 160, 3) := by decide +kernel
theorem d_CM_count_132 : decode prog_1_method_11_code 132 = .ok (.invokeinterface 150 1, 5) := by decide +kernel
theorem d_CM_count_137 : decode prog_1_method_11_code 137 = .ok (.ireturn, 1) := by decide +kernel
theorem d_CM_count_138 : decode prog_1_method_11_code 138 = .ok (.iconst (-1), 1) := by decide +kernel
theorem d_CM_count_139 : decode prog_1_method_11_code 139 = .ok (.ireturn, 1) := by decide +kernel
set_option maxHeartbeats 4000000 in
set_option maxRecDepth 100000 in
theorem c_CM_variable (l : Launch) (hst : l.stackTraces = false) (dC : Nat → ClassId) (dI : Nat → Nat → Nat) (ar : Nat → ClassId) (N0 : Nat) (z : Nat → Nat) (h0 rd mc va ch gi bo qu sl sk : Nat) (v : Int32) (sz : Nat) : vx_Met l ({ cls := "ChannelMachine", name := "variable", desc := "(I)I" } : Jvm.MethodName) ((Jvm.Cond.code ({ cls := "ChannelMachine", name := "variable", desc := "(I)I" } : Jvm.MethodName) prog_1_method_8_code (2 : Nat) (Option.some Jvm.ClassFile.FieldType.int)) :: x_T) ({ frames := 6, cells := 1, slots := 6, locals := 82 }) (x_Pc (dC, dI) ar N0 z [(h0, .inr (5, [.ref rd, .ref mc, .int (-1)])), (mc, .inr (2, [.ref va, .ref ch, .ref gi, .ref bo, .ref qu, .ref sl, .ref sk, .int 0, .int 0, .int 0, .long 0])), (va, .inl (ar 0, 6, .inl (fun _ => 0)))] sz [.ref h0, .int v]) (va_Qi (fun (r : Int32) (u : Unit) => (¬ v < 0 ∧ v < 6) ∧ r = 0) (fun u t => True) (va_A [(h0, .inr (5, [.ref rd, .ref mc, .int (-1)])), (mc, .inr (2, [.ref va, .ref ch, .ref gi, .ref bo, .ref qu, .ref sl, .ref sk, .int 0, .int 0, .int 0, .long 0])), (va, .inl (ar 0, 6, .inl (fun _ => 0)))] sz)) (vx_X (fun (_ : Unit) => v < 0 ∨ ¬ v < 6) (fun E _ t => E = "java/lang/IllegalArgumentException") (va_A [(h0, .inr (5, [.ref rd, .ref mc, .int (-1)])), (mc, .inr (2, [.ref va, .ref ch, .ref gi, .ref bo, .ref qu, .ref sl, .ref sk, .int 0, .int 0, .int 0, .long 0])), (va, .inl (ar 0, 6, .inl (fun _ => 0)))] sz)) 1 6 (va_A [(h0, .inr (5, [.ref rd, .ref mc, .int (-1)])), (mc, .inr (2, [.ref va, .ref ch, .ref gi, .ref bo, .ref qu, .ref sl, .ref sk, .int 0, .int 0, .int 0, .long 0])), (va, .inl (ar 0, 6, .inl (fun _ => 0)))] sz) := by
  refine vx_ofW (cc := prog_1_method_8_code) (maxL := 2) (ret := (some .int)) (by decide) rfl ?_
  intro p e s m args below meth c s₁ B hml htb hv
  obtain ⟨rfl, hsz, hN0, hP, hU, hZ, hD0⟩ := hv
  have hK := hU.1
  have hx := B.exec
  have hb := B.bytes
  have hr := B.returns
  have hts : ∀ w ∈ x_T, w.before ([.ref h0, .int v] : List Value).toArray s = true := fun w h => atoms_spec (ws := (Jvm.Cond.code ({ cls := "ChannelMachine", name := "variable", desc := "(I)I" } : Jvm.MethodName) prog_1_method_8_code (2 : Nat) (Option.some Jvm.ClassFile.FieldType.int)) :: x_T) B.pre w (List.mem_cons_of_mem _ h)
  have hown : s.vm.findClass "ChannelMachine" = some m.cls := findClass_of_methodNamed B.named
  have hlocks := B.notSynchronized
  subst hsz
  have hD := hD0.self (sz := s.heap.size)
  have hAN := x_AN hD0 hN0
  generalize hAe : va_A [(h0, .inr (5, [.ref rd, .ref mc, .int (-1)])), (mc, .inr (2, [.ref va, .ref ch, .ref gi, .ref bo, .ref qu, .ref sl, .ref sk, .int 0, .int 0, .int 0, .long 0])), (va, .inl (ar 0, 6, .inl (fun _ => 0)))] s.heap.size = A at hD hAN ⊢
  have hA : ∀ q : Nat, s.heap.size ≤ q → A q := fun q h => by rw [← hAe]; exact Or.inr h
  have hS : va_S A s.heap s.heap [] := va_S.rf
  have hP : va_P (dC, dI) x_cl [(h0, .inr (5, [.ref rd, .ref mc, .int (-1)])), (mc, .inr (2, [.ref va, .ref ch, .ref gi, .ref bo, .ref qu, .ref sl, .ref sk, .int 0, .int 0, .int 0, .long 0])), (va, .inl (ar 0, 6, .inl (fun _ => 0)))] s.heap := hP
  have hl := lv_entry ([.ref h0, .int v]) (n := 2) (Nat.le_of_ble_eq_true rfl)
  rw [lg_entry_eq]
  generalize (lg_sl ([.ref h0, .int v]) ++ List.replicate (2 - (lg_sl ([.ref h0, .int v])).length) Slot.unset).toArray = ls at hl ⊢
  have hl : lv_has ls 2 [(0, .ref h0), (1, .int v)] := hl
  have hH0 : s.heap.size ≤ s.heap.size := Nat.le_refl _
  refine lv_iload_n hx hb d_CM_variable_0 rfl (lv_at hl 1 rfl) ?_
  refine lv_if_lt (tgt := 10) hx hb d_CM_variable_1 (by decide) (fun c1 => ?_) (fun c1 => ?_)
  · exact x_throw (A := A) hx hb hst (own := "ChannelMachine") (cls := "java/lang/IllegalArgumentException") (text := "not a variable") (ik := 31) (is := 122) (ic := 35) hown k_230 k_13 (by decide) x_tChannelMachine_35 (by decide +kernel) rfl hts hU hZ hAN hS (by rw [hml]; exact hl.1) d_CM_variable_10 d_CM_variable_13 d_CM_variable_14 d_CM_variable_16 d_CM_variable_19 htb (Nat.le_of_ble_eq_true rfl) (Nat.le_of_ble_eq_true rfl) (Nat.le_of_ble_eq_true rfl) (Nat.le_of_ble_eq_true rfl) hlocks (fun t h1 h2 h3 h4 => ⟨(), Or.inl c1, rfl, h4⟩) hS.2.2 (Nat.le_of_ble_eq_true rfl) (Nat.le_of_ble_eq_true rfl)
  · refine lv_iload_n hx hb d_CM_variable_4 rfl (lv_at hl 1 rfl) ?_
    refine lv_bipush (v := 6) hx hb d_CM_variable_5 (by decide) ?_
    refine lv_icmp_lt (tgt := 20) hx hb d_CM_variable_7 (by decide) (fun c2 => ?_) (fun c2 => ?_)
    · refine lv_aload_n hx hb d_CM_variable_20 rfl (lv_at hl 0 rfl) ?_
      refine va_get (D := (dC, dI)) (ci := 5) (v := .ref mc) (C := "ChannelMachine") (T := F_CM) (N := 3) hx hb hts i_CM hown hK hP 0 rfl rfl 1 (by decide) (hts _ k_195) (fun _ h9 => h9) rfl d_CM_variable_21 ?_
      refine va_getN (D := (dC, dI)) (ci := 2) (v := .ref va) (C := "ChannelMachine$Machine") (T := F_Machine) (N := 11) hx hb hts i_Machine hown hK hP 1 rfl rfl 0 (by decide) (hU.2.1 _ kn_151) (fun _ h9 => h9) rfl d_CM_variable_24 ?_
      refine lv_iload_n hx hb d_CM_variable_27 rfl (lv_at hl 1 rfl) ?_
      refine va_iald hx hb hK hP 2 0 rfl rfl (x_in (b := 6) (by decide) c1 c2) d_CM_variable_28 ?_
      refine vx_ret ?_
      refine W.widen (k := 1) (n := 6) (Nat.le_of_ble_eq_true rfl) (Nat.le_of_ble_eq_true rfl) ?_
      exact W.iret (v := 0) hx hb hr (fun t ht hW => ⟨⟨0, (), rfl, ⟨⟨c1, c2⟩, rfl⟩, trivial⟩, hS.F ht⟩) hS.2.2 d_CM_variable_29
    · exact x_throw (A := A) hx hb hst (own := "ChannelMachine") (cls := "java/lang/IllegalArgumentException") (text := "not a variable") (ik := 31) (is := 122) (ic := 35) hown k_230 k_13 (by decide) x_tChannelMachine_35 (by decide +kernel) rfl hts hU hZ hAN hS (by rw [hml]; exact hl.1) d_CM_variable_10 d_CM_variable_13 d_CM_variable_14 d_CM_variable_16 d_CM_variable_19 htb (Nat.le_of_ble_eq_true rfl) (Nat.le_of_ble_eq_true rfl) (Nat.le_of_ble_eq_true rfl) (Nat.le_of_ble_eq_true rfl) hlocks (fun t h1 h2 h3 h4 => ⟨(), Or.inr c2, rfl, h4⟩) hS.2.2 (Nat.le_of_ble_eq_true rfl) (Nat.le_of_ble_eq_true rfl)
set_option maxHeartbeats 4000000 in
set_option maxRecDepth 100000 in
theorem c_CM_set (l : Launch) (hst : l.stackTraces = false) (dC : Nat → ClassId) (dI : Nat → Nat → Nat) (ar : Nat → ClassId) (N0 : Nat) (z : Nat → Nat) (h0 rd mc va ch gi bo qu sl sk : Nat) (v x : Int32) (sz : Nat) : vx_Met l ({ cls := "ChannelMachine", name := "set", desc := "(II)V" } : Jvm.MethodName) ((Jvm.Cond.code ({ cls := "ChannelMachine", name := "set", desc := "(II)V" } : Jvm.MethodName) prog_1_method_9_code (3 : Nat) (Option.none : Option Jvm.ClassFile.FieldType)) :: x_T) ({ frames := 6, cells := 1, slots := 6, locals := 82 }) (x_Pc (dC, dI) ar N0 z [(h0, .inr (5, [.ref rd, .ref mc, .int (-1)])), (mc, .inr (2, [.ref va, .ref ch, .ref gi, .ref bo, .ref qu, .ref sl, .ref sk, .int 0, .int 0, .int 0, .long 0])), (va, .inl (ar 0, 6, .inl (fun _ => 0)))] sz [.ref h0, .int v, .int x]) (va_Qv (fun (u : Unit) => ¬ v < 0 ∧ v < 6) (fun u t => True) (va_A [(h0, .inr (5, [.ref rd, .ref mc, .int (-1)])), (mc, .inr (2, [.ref va, .ref ch, .ref gi, .ref bo, .ref qu, .ref sl, .ref sk, .int 0, .int 0, .int 0, .long 0])), (va, .inl (ar 0, 6, .inl (fun _ => 0)))] sz)) (vx_X (fun (_ : Unit) => v < 0 ∨ ¬ v < 6) (fun E _ t => E = "java/lang/IllegalArgumentException") (va_A [(h0, .inr (5, [.ref rd, .ref mc, .int (-1)])), (mc, .inr (2, [.ref va, .ref ch, .ref gi, .ref bo, .ref qu, .ref sl, .ref sk, .int 0, .int 0, .int 0, .long 0])), (va, .inl (ar 0, 6, .inl (fun _ => 0)))] sz)) 1 6 (va_A [(h0, .inr (5, [.ref rd, .ref mc, .int (-1)])), (mc, .inr (2, [.ref va, .ref ch, .ref gi, .ref bo, .ref qu, .ref sl, .ref sk, .int 0, .int 0, .int 0, .long 0])), (va, .inl (ar 0, 6, .inl (fun _ => 0)))] sz) := by
  refine vx_ofW (cc := prog_1_method_9_code) (maxL := 3) (ret := none) (by decide) rfl ?_
  intro p e s m args below meth c s₁ B hml htb hv
  obtain ⟨rfl, hsz, hN0, hP, hU, hZ, hD0⟩ := hv
  have hK := hU.1
  have hx := B.exec
  have hb := B.bytes
  have hr := B.returns
  have hts : ∀ w ∈ x_T, w.before ([.ref h0, .int v, .int x] : List Value).toArray s = true := fun w h => atoms_spec (ws := (Jvm.Cond.code ({ cls := "ChannelMachine", name := "set", desc := "(II)V" } : Jvm.MethodName) prog_1_method_9_code (3 : Nat) (Option.none : Option Jvm.ClassFile.FieldType)) :: x_T) B.pre w (List.mem_cons_of_mem _ h)
  have hown : s.vm.findClass "ChannelMachine" = some m.cls := findClass_of_methodNamed B.named
  have hlocks := B.notSynchronized
  subst hsz
  have hD := hD0.self (sz := s.heap.size)
  have hAN := x_AN hD0 hN0
  generalize hAe : va_A [(h0, .inr (5, [.ref rd, .ref mc, .int (-1)])), (mc, .inr (2, [.ref va, .ref ch, .ref gi, .ref bo, .ref qu, .ref sl, .ref sk, .int 0, .int 0, .int 0, .long 0])), (va, .inl (ar 0, 6, .inl (fun _ => 0)))] s.heap.size = A at hD hAN ⊢
  have hA : ∀ q : Nat, s.heap.size ≤ q → A q := fun q h => by rw [← hAe]; exact Or.inr h
  have hS : va_S A s.heap s.heap [] := va_S.rf
  have hP : va_P (dC, dI) x_cl [(h0, .inr (5, [.ref rd, .ref mc, .int (-1)])), (mc, .inr (2, [.ref va, .ref ch, .ref gi, .ref bo, .ref qu, .ref sl, .ref sk, .int 0, .int 0, .int 0, .long 0])), (va, .inl (ar 0, 6, .inl (fun _ => 0)))] s.heap := hP
  have hl := lv_entry ([.ref h0, .int v, .int x]) (n := 3) (Nat.le_of_ble_eq_true rfl)
  rw [lg_entry_eq]
  generalize (lg_sl ([.ref h0, .int v, .int x]) ++ List.replicate (3 - (lg_sl ([.ref h0, .int v, .int x])).length) Slot.unset).toArray = ls at hl ⊢
  have hl : lv_has ls 3 [(0, .ref h0), (1, .int v), (2, .int x)] := hl
  have hH0 : s.heap.size ≤ s.heap.size := Nat.le_refl _
  refine lv_iload_n hx hb d_CM_set_0 rfl (lv_at hl 1 rfl) ?_
  refine lv_if_lt (tgt := 10) hx hb d_CM_set_1 (by decide) (fun c1 => ?_) (fun c1 => ?_)
  · exact x_throw (A := A) hx hb hst (own := "ChannelMachine") (cls := "java/lang/IllegalArgumentException") (text := "not a variable") (ik := 31) (is := 122) (ic := 35) hown k_230 k_13 (by decide) x_tChannelMachine_35 (by decide +kernel) rfl hts hU hZ hAN hS (by rw [hml]; exact hl.1) d_CM_set_10 d_CM_set_13 d_CM_set_14 d_CM_set_16 d_CM_set_19 htb (Nat.le_of_ble_eq_true rfl) (Nat.le_of_ble_eq_true rfl) (Nat.le_of_ble_eq_true rfl) (Nat.le_of_ble_eq_true rfl) hlocks (fun t h1 h2 h3 h4 => ⟨(), Or.inl c1, rfl, h4⟩) hS.2.2 (Nat.le_of_ble_eq_true rfl) (Nat.le_of_ble_eq_true rfl)
  · refine lv_iload_n hx hb d_CM_set_4 rfl (lv_at hl 1 rfl) ?_
    refine lv_bipush (v := 6) hx hb d_CM_set_5 (by decide) ?_
    refine lv_icmp_lt (tgt := 20) hx hb d_CM_set_7 (by decide) (fun c2 => ?_) (fun c2 => ?_)
    · refine lv_aload_n hx hb d_CM_set_20 rfl (lv_at hl 0 rfl) ?_
      refine va_get (D := (dC, dI)) (ci := 5) (v := .ref mc) (C := "ChannelMachine") (T := F_CM) (N := 3) hx hb hts i_CM hown hK hP 0 rfl rfl 1 (by decide) (hts _ k_195) (fun _ h9 => h9) rfl d_CM_set_21 ?_
      refine va_getN (D := (dC, dI)) (ci := 2) (v := .ref va) (C := "ChannelMachine$Machine") (T := F_Machine) (N := 11) hx hb hts i_Machine hown hK hP 1 rfl rfl 0 (by decide) (hU.2.1 _ kn_151) (fun _ h9 => h9) rfl d_CM_set_24 ?_
      refine lv_iload_n hx hb d_CM_set_27 rfl (lv_at hl 1 rfl) ?_
      refine lv_iload_n hx hb d_CM_set_28 rfl (lv_at hl 2 rfl) ?_
      refine va_iast hx hb hK hP hD hS 2 0 rfl rfl (i := v) (x := x) (x_in (b := 6) (by decide) c1 c2) d_CM_set_29 (fun H locs hP hD hS => ?_)
      have hP : va_P (dC, dI) x_cl [(h0, .inr (5, [.ref rd, .ref mc, .int (-1)])), (mc, .inr (2, [.ref va, .ref ch, .ref gi, .ref bo, .ref qu, .ref sl, .ref sk, .int 0, .int 0, .int 0, .long 0])), (va, .inl (ar 0, 6, .inl (upd (fun _ => 0) (Int32.toNatClampNeg v) x)))] H := hP
      have hD : va_D A [(h0, .inr (5, [.ref rd, .ref mc, .int (-1)])), (mc, .inr (2, [.ref va, .ref ch, .ref gi, .ref bo, .ref qu, .ref sl, .ref sk, .int 0, .int 0, .int 0, .long 0])), (va, .inl (ar 0, 6, .inl (upd (fun _ => 0) (Int32.toNatClampNeg v) x)))] := hD
      refine vx_ret ?_
      refine W.widen (k := 1) (n := 6) (Nat.le_of_ble_eq_true rfl) (Nat.le_of_ble_eq_true rfl) ?_
      exact W.vret hx hb hr (fun t ht hW => ⟨⟨(), rfl, ⟨c1, c2⟩, trivial⟩, hS.F ht⟩) hS.2.2 d_CM_set_30
    · exact x_throw (A := A) hx hb hst (own := "ChannelMachine") (cls := "java/lang/IllegalArgumentException") (text := "not a variable") (ik := 31) (is := 122) (ic := 35) hown k_230 k_13 (by decide) x_tChannelMachine_35 (by decide +kernel) rfl hts hU hZ hAN hS (by rw [hml]; exact hl.1) d_CM_set_10 d_CM_set_13 d_CM_set_14 d_CM_set_16 d_CM_set_19 htb (Nat.le_of_ble_eq_true rfl) (Nat.le_of_ble_eq_true rfl) (Nat.le_of_ble_eq_true rfl) (Nat.le_of_ble_eq_true rfl) hlocks (fun t h1 h2 h3 h4 => ⟨(), Or.inr c2, rfl, h4⟩) hS.2.2 (Nat.le_of_ble_eq_true rfl) (Nat.le_of_ble_eq_true rfl)
set_option maxHeartbeats 4000000 in
set_option maxRecDepth 100000 in
theorem c_CM_give (l : Launch) (hst : l.stackTraces = false) (dC : Nat → ClassId) (dI : Nat → Nat → Nat) (ar : Nat → ClassId) (N0 : Nat) (z : Nat → Nat) (h0 rd mc va ch gi bo qu sl sk : Nat) (x : Int32) (sz : Nat) : vx_Met l ({ cls := "ChannelMachine", name := "give", desc := "(I)I" } : Jvm.MethodName) ((Jvm.Cond.code ({ cls := "ChannelMachine", name := "give", desc := "(I)I" } : Jvm.MethodName) prog_1_method_6_code (2 : Nat) (Option.some Jvm.ClassFile.FieldType.int)) :: x_T) ({ frames := 6, cells := 1, slots := 6, locals := 82 }) (x_Pc (dC, dI) ar N0 z [(h0, .inr (5, [.ref rd, .ref mc, .int (-1)])), (mc, .inr (2, [.ref va, .ref ch, .ref gi, .ref bo, .ref qu, .ref sl, .ref sk, .int 0, .int 0, .int 0, .long 0]))] sz [.ref h0, .int x]) (va_Qi (fun (r : Int32) (u : Unit) => False) (fun u t => True) (va_A [(h0, .inr (5, [.ref rd, .ref mc, .int (-1)])), (mc, .inr (2, [.ref va, .ref ch, .ref gi, .ref bo, .ref qu, .ref sl, .ref sk, .int 0, .int 0, .int 0, .long 0]))] sz)) (vx_X (fun (_ : Unit) => True) (fun E _ t => E = "java/lang/IllegalStateException") (va_A [(h0, .inr (5, [.ref rd, .ref mc, .int (-1)])), (mc, .inr (2, [.ref va, .ref ch, .ref gi, .ref bo, .ref qu, .ref sl, .ref sk, .int 0, .int 0, .int 0, .long 0]))] sz)) 1 6 (va_A [(h0, .inr (5, [.ref rd, .ref mc, .int (-1)])), (mc, .inr (2, [.ref va, .ref ch, .ref gi, .ref bo, .ref qu, .ref sl, .ref sk, .int 0, .int 0, .int 0, .long 0]))] sz) := by
  refine vx_ofW (cc := prog_1_method_6_code) (maxL := 2) (ret := (some .int)) (by decide) rfl ?_
  intro p e s m args below meth c s₁ B hml htb hv
  obtain ⟨rfl, hsz, hN0, hP, hU, hZ, hD0⟩ := hv
  have hK := hU.1
  have hx := B.exec
  have hb := B.bytes
  have hr := B.returns
  have hts : ∀ w ∈ x_T, w.before ([.ref h0, .int x] : List Value).toArray s = true := fun w h => atoms_spec (ws := (Jvm.Cond.code ({ cls := "ChannelMachine", name := "give", desc := "(I)I" } : Jvm.MethodName) prog_1_method_6_code (2 : Nat) (Option.some Jvm.ClassFile.FieldType.int)) :: x_T) B.pre w (List.mem_cons_of_mem _ h)
  have hown : s.vm.findClass "ChannelMachine" = some m.cls := findClass_of_methodNamed B.named
  have hlocks := B.notSynchronized
  subst hsz
  have hD := hD0.self (sz := s.heap.size)
  have hAN := x_AN hD0 hN0
  generalize hAe : va_A [(h0, .inr (5, [.ref rd, .ref mc, .int (-1)])), (mc, .inr (2, [.ref va, .ref ch, .ref gi, .ref bo, .ref qu, .ref sl, .ref sk, .int 0, .int 0, .int 0, .long 0]))] s.heap.size = A at hD hAN ⊢
  have hA : ∀ q : Nat, s.heap.size ≤ q → A q := fun q h => by rw [← hAe]; exact Or.inr h
  have hS : va_S A s.heap s.heap [] := va_S.rf
  have hP : va_P (dC, dI) x_cl [(h0, .inr (5, [.ref rd, .ref mc, .int (-1)])), (mc, .inr (2, [.ref va, .ref ch, .ref gi, .ref bo, .ref qu, .ref sl, .ref sk, .int 0, .int 0, .int 0, .long 0]))] s.heap := hP
  have hl := lv_entry ([.ref h0, .int x]) (n := 2) (Nat.le_of_ble_eq_true rfl)
  rw [lg_entry_eq]
  generalize (lg_sl ([.ref h0, .int x]) ++ List.replicate (2 - (lg_sl ([.ref h0, .int x])).length) Slot.unset).toArray = ls at hl ⊢
  have hl : lv_has ls 2 [(0, .ref h0), (1, .int x)] := hl
  have hH0 : s.heap.size ≤ s.heap.size := Nat.le_refl _
  refine lv_aload_n hx hb d_CM_give_0 rfl (lv_at hl 0 rfl) ?_
  refine va_get (D := (dC, dI)) (ci := 5) (v := .ref mc) (C := "ChannelMachine") (T := F_CM) (N := 3) hx hb hts i_CM hown hK hP 0 rfl rfl 1 (by decide) (hts _ k_195) (fun _ h9 => h9) rfl d_CM_give_1 ?_
  refine va_getN (D := (dC, dI)) (ci := 2) (v := .int 0) (C := "ChannelMachine$Machine") (T := F_Machine) (N := 11) hx hb hts i_Machine hown hK hP 1 rfl rfl 7 (by decide) (hU.2.1 _ kn_164) (fun _ h9 => h9) rfl d_CM_give_4 ?_
  refine lv_iconst (v := 1) hx hb d_CM_give_7 (by decide) ?_
  refine lv_icmp_eq (tgt := 21) hx hb d_CM_give_8 (by decide) (fun c1 => absurd c1 (by decide)) (fun _ => ?_)
  exact x_throw (A := A) hx hb hst (own := "ChannelMachine") (cls := "java/lang/IllegalStateException") (text := "no program to be run") (ik := 41) (is := 86) (ic := 45) hown k_299 k_14 (by decide) x_tChannelMachine_45 (by decide +kernel) rfl hts hU hZ hAN hS (by rw [hml]; exact hl.1) d_CM_give_11 d_CM_give_14 d_CM_give_15 d_CM_give_17 d_CM_give_20 htb (Nat.le_of_ble_eq_true rfl) (Nat.le_of_ble_eq_true rfl) (Nat.le_of_ble_eq_true rfl) (Nat.le_of_ble_eq_true rfl) hlocks (fun t h1 h2 h3 h4 => ⟨(), trivial, rfl, h4⟩) hS.2.2 (Nat.le_of_ble_eq_true rfl) (Nat.le_of_ble_eq_true rfl)
set_option maxHeartbeats 4000000 in
set_option maxRecDepth 100000 in
theorem c_CM_run (l : Launch) (hst : l.stackTraces = false) (dC : Nat → ClassId) (dI : Nat → Nat → Nat) (ar : Nat → ClassId) (N0 : Nat) (z : Nat → Nat) (h0 rd mc va ch gi bo qu sl sk : Nat) (n : Int32) (sz : Nat) : vx_Met l ({ cls := "ChannelMachine", name := "run", desc := "(I)I" } : Jvm.MethodName) ((Jvm.Cond.code ({ cls := "ChannelMachine", name := "run", desc := "(I)I" } : Jvm.MethodName) prog_1_method_5_code (2 : Nat) (Option.some Jvm.ClassFile.FieldType.int)) :: x_T) ({ frames := 6, cells := 1, slots := 6, locals := 82 }) (x_Pc (dC, dI) ar N0 z [(h0, .inr (5, [.ref rd, .ref mc, .int (-1)])), (mc, .inr (2, [.ref va, .ref ch, .ref gi, .ref bo, .ref qu, .ref sl, .ref sk, .int 0, .int 0, .int 0, .long 0]))] sz [.ref h0, .int n]) (va_Qi (fun (r : Int32) (u : Unit) => False) (fun u t => True) (va_A [(h0, .inr (5, [.ref rd, .ref mc, .int (-1)])), (mc, .inr (2, [.ref va, .ref ch, .ref gi, .ref bo, .ref qu, .ref sl, .ref sk, .int 0, .int 0, .int 0, .long 0]))] sz)) (vx_X (fun (_ : Unit) => True) (fun E _ t => (E = "java/lang/IllegalArgumentException" ∧ (n < 1 ∨ ¬ n ≤ 200)) ∨ (E = "java/lang/IllegalStateException" ∧ ¬ n < 1 ∧ n ≤ 200)) (va_A [(h0, .inr (5, [.ref rd, .ref mc, .int (-1)])), (mc, .inr (2, [.ref va, .ref ch, .ref gi, .ref bo, .ref qu, .ref sl, .ref sk, .int 0, .int 0, .int 0, .long 0]))] sz)) 1 6 (va_A [(h0, .inr (5, [.ref rd, .ref mc, .int (-1)])), (mc, .inr (2, [.ref va, .ref ch, .ref gi, .ref bo, .ref qu, .ref sl, .ref sk, .int 0, .int 0, .int 0, .long 0]))] sz) := by
  refine vx_ofW (cc := prog_1_method_5_code) (maxL := 2) (ret := (some .int)) (by decide) rfl ?_
  intro p e s m args below meth c s₁ B hml htb hv
  obtain ⟨rfl, hsz, hN0, hP, hU, hZ, hD0⟩ := hv
  have hK := hU.1
  have hx := B.exec
  have hb := B.bytes
  have hr := B.returns
  have hts : ∀ w ∈ x_T, w.before ([.ref h0, .int n] : List Value).toArray s = true := fun w h => atoms_spec (ws := (Jvm.Cond.code ({ cls := "ChannelMachine", name := "run", desc := "(I)I" } : Jvm.MethodName) prog_1_method_5_code (2 : Nat) (Option.some Jvm.ClassFile.FieldType.int)) :: x_T) B.pre w (List.mem_cons_of_mem _ h)
  have hown : s.vm.findClass "ChannelMachine" = some m.cls := findClass_of_methodNamed B.named
  have hlocks := B.notSynchronized
  subst hsz
  have hD := hD0.self (sz := s.heap.size)
  have hAN := x_AN hD0 hN0
  generalize hAe : va_A [(h0, .inr (5, [.ref rd, .ref mc, .int (-1)])), (mc, .inr (2, [.ref va, .ref ch, .ref gi, .ref bo, .ref qu, .ref sl, .ref sk, .int 0, .int 0, .int 0, .long 0]))] s.heap.size = A at hD hAN ⊢
  have hA : ∀ q : Nat, s.heap.size ≤ q → A q := fun q h => by rw [← hAe]; exact Or.inr h
  have hS : va_S A s.heap s.heap [] := va_S.rf
  have hP : va_P (dC, dI) x_cl [(h0, .inr (5, [.ref rd, .ref mc, .int (-1)])), (mc, .inr (2, [.ref va, .ref ch, .ref gi, .ref bo, .ref qu, .ref sl, .ref sk, .int 0, .int 0, .int 0, .long 0]))] s.heap := hP
  have hl := lv_entry ([.ref h0, .int n]) (n := 2) (Nat.le_of_ble_eq_true rfl)
  rw [lg_entry_eq]
  generalize (lg_sl ([.ref h0, .int n]) ++ List.replicate (2 - (lg_sl ([.ref h0, .int n])).length) Slot.unset).toArray = ls at hl ⊢
  have hl : lv_has ls 2 [(0, .ref h0), (1, .int n)] := hl
  have hH0 : s.heap.size ≤ s.heap.size := Nat.le_refl _
  refine lv_iload_n hx hb d_CM_run_0 rfl (lv_at hl 1 rfl) ?_
  refine lv_iconst (v := 1) hx hb d_CM_run_1 (by decide) ?_
  refine lv_icmp_lt (tgt := 12) hx hb d_CM_run_2 (by decide) (fun c1 => ?_) (fun c1 => ?_)
  · exact x_throw (A := A) hx hb hst (own := "ChannelMachine") (cls := "java/lang/IllegalArgumentException") (text := "not a number of acts") (ik := 31) (is := 81) (ic := 35) hown k_230 k_13 (by decide) x_tChannelMachine_35 (by decide +kernel) rfl hts hU hZ hAN hS (by rw [hml]; exact hl.1) d_CM_run_12 d_CM_run_15 d_CM_run_16 d_CM_run_18 d_CM_run_21 htb (Nat.le_of_ble_eq_true rfl) (Nat.le_of_ble_eq_true rfl) (Nat.le_of_ble_eq_true rfl) (Nat.le_of_ble_eq_true rfl) hlocks (fun t h1 h2 h3 h4 => ⟨(), trivial, Or.inl ⟨rfl, Or.inl c1⟩, h4⟩) hS.2.2 (Nat.le_of_ble_eq_true rfl) (Nat.le_of_ble_eq_true rfl)
  · refine lv_iload_n hx hb d_CM_run_5 rfl (lv_at hl 1 rfl) ?_
    refine lv_sipush (v := 200) hx hb d_CM_run_6 (by decide) ?_
    refine lv_icmp_le (tgt := 22) hx hb d_CM_run_9 (by decide) (fun c2 => ?_) (fun c2 => ?_)
    · refine lv_aload_n hx hb d_CM_run_22 rfl (lv_at hl 0 rfl) ?_
      refine va_get (D := (dC, dI)) (ci := 5) (v := .ref mc) (C := "ChannelMachine") (T := F_CM) (N := 3) hx hb hts i_CM hown hK hP 0 rfl rfl 1 (by decide) (hts _ k_195) (fun _ h9 => h9) rfl d_CM_run_23 ?_
      refine va_getN (D := (dC, dI)) (ci := 2) (v := .int 0) (C := "ChannelMachine$Machine") (T := F_Machine) (N := 11) hx hb hts i_Machine hown hK hP 1 rfl rfl 7 (by decide) (hU.2.1 _ kn_164) (fun _ h9 => h9) rfl d_CM_run_26 ?_
      refine lv_iconst (v := 1) hx hb d_CM_run_29 (by decide) ?_
      refine lv_icmp_eq (tgt := 43) hx hb d_CM_run_30 (by decide) (fun c3 => absurd c3 (by decide)) (fun _ => ?_)
      exact x_throw (A := A) hx hb hst (own := "ChannelMachine") (cls := "java/lang/IllegalStateException") (text := "no program to be run") (ik := 41) (is := 86) (ic := 45) hown k_299 k_14 (by decide) x_tChannelMachine_45 (by decide +kernel) rfl hts hU hZ hAN hS (by rw [hml]; exact hl.1) d_CM_run_33 d_CM_run_36 d_CM_run_37 d_CM_run_39 d_CM_run_42 htb (Nat.le_of_ble_eq_true rfl) (Nat.le_of_ble_eq_true rfl) (Nat.le_of_ble_eq_true rfl) (Nat.le_of_ble_eq_true rfl) hlocks (fun t h1 h2 h3 h4 => ⟨(), trivial, Or.inr ⟨rfl, c1, c2⟩, h4⟩) hS.2.2 (Nat.le_of_ble_eq_true rfl) (Nat.le_of_ble_eq_true rfl)
    · exact x_throw (A := A) hx hb hst (own := "ChannelMachine") (cls := "java/lang/IllegalArgumentException") (text := "not a number of acts") (ik := 31) (is := 81) (ic := 35) hown k_230 k_13 (by decide) x_tChannelMachine_35 (by decide +kernel) rfl hts hU hZ hAN hS (by rw [hml]; exact hl.1) d_CM_run_12 d_CM_run_15 d_CM_run_16 d_CM_run_18 d_CM_run_21 htb (Nat.le_of_ble_eq_true rfl) (Nat.le_of_ble_eq_true rfl) (Nat.le_of_ble_eq_true rfl) (Nat.le_of_ble_eq_true rfl) hlocks (fun t h1 h2 h3 h4 => ⟨(), trivial, Or.inl ⟨rfl, Or.inr c2⟩, h4⟩) hS.2.2 (Nat.le_of_ble_eq_true rfl) (Nat.le_of_ble_eq_true rfl)
set_option maxHeartbeats 4000000 in
set_option maxRecDepth 100000 in
theorem c_Mo_in (l : Launch) (dC : Nat → ClassId) (dI : Nat → Nat → Nat) (ar : Nat → ClassId) (N0 : Nat) (z : Nat → Nat) (v a b : Int32) (sz : Nat) : Met l ({ cls := "ChannelMachineModel", name := "in", desc := "(III)Z" } : Jvm.MethodName) ((Jvm.Cond.code ({ cls := "ChannelMachineModel", name := "in", desc := "(III)Z" } : Jvm.MethodName) prog_12_method_3_code (3 : Nat) (Option.some Jvm.ClassFile.FieldType.boolean)) :: x_T) ({ frames := 0, cells := 0, slots := 0, locals := 0 }) (x_Pc (dC, dI) ar N0 z [] sz [.int v, .int a, .int b]) (va_Qi (fun (r : Int32) (u : Unit) => (¬ v < a ∧ ¬ b < v ∧ r = 1) ∨ ((v < a ∨ b < v) ∧ r = 0)) (fun u t => va_P (dC, dI) x_cl [] t.heap ∧ va_D (va_A [] sz) []) (va_A [] sz)) 0 0 (va_A [] sz) := by
  refine Met.ofW (cc := prog_12_method_3_code) (maxL := 3) (ret := (some .boolean)) (by decide) rfl ?_
  intro p e s m args below meth c s₁ B hml hv
  obtain ⟨rfl, hsz, hN0, hP, hU, hZ, hD0⟩ := hv
  have hK := hU.1
  have hx := B.exec
  have hb := B.bytes
  have hr := B.returns
  have hts : ∀ w ∈ x_T, w.before ([.int v, .int a, .int b] : List Value).toArray s = true := fun w h => atoms_spec (ws := (Jvm.Cond.code ({ cls := "ChannelMachineModel", name := "in", desc := "(III)Z" } : Jvm.MethodName) prog_12_method_3_code (3 : Nat) (Option.some Jvm.ClassFile.FieldType.boolean)) :: x_T) B.pre w (List.mem_cons_of_mem _ h)
  have hown : s.vm.findClass "ChannelMachineModel" = some m.cls := findClass_of_methodNamed B.named
  have hlocks := B.notSynchronized
  subst hsz
  have hD := hD0.self (sz := s.heap.size)
  have hAN := x_AN hD0 hN0
  generalize hAe : va_A [] s.heap.size = A at hD hAN ⊢
  have hA : ∀ q : Nat, s.heap.size ≤ q → A q := fun q h => by rw [← hAe]; exact Or.inr h
  have hS : va_S A s.heap s.heap [] := va_S.rf
  have hP : va_P (dC, dI) x_cl [] s.heap := hP
  have hl := lv_entry ([.int v, .int a, .int b]) (n := 3) (Nat.le_of_ble_eq_true rfl)
  rw [lg_entry_eq]
  generalize (lg_sl ([.int v, .int a, .int b]) ++ List.replicate (3 - (lg_sl ([.int v, .int a, .int b])).length) Slot.unset).toArray = ls at hl ⊢
  have hl : lv_has ls 3 [(0, .int v), (1, .int a), (2, .int b)] := hl
  have hH0 : s.heap.size ≤ s.heap.size := Nat.le_refl _
  refine lv_iload_n hx hb d_Mo_in_0 rfl (lv_at hl 0 rfl) ?_
  refine lv_iload_n hx hb d_Mo_in_1 rfl (lv_at hl 1 rfl) ?_
  refine lv_icmp_lt (tgt := 14) hx hb d_Mo_in_2 (by decide) (fun c1 => ?_) (fun c1 => ?_)
  · refine lv_iconst (v := 0) hx hb d_Mo_in_14 (by decide) ?_
    refine W.widen (k := 0) (n := 0) (Nat.le_of_ble_eq_true rfl) (Nat.le_of_ble_eq_true rfl) ?_
    exact W.zret (v := 0) hx hb hr (rfl) (fun t ht hW => ⟨⟨0, (), rfl, Or.inr ⟨Or.inl c1, rfl⟩, ⟨by rw [ht]; exact hP, hD⟩⟩, hS.F ht⟩) hS.2.2 d_Mo_in_15
  · refine lv_iload_n hx hb d_Mo_in_5 rfl (lv_at hl 0 rfl) ?_
    refine lv_iload_n hx hb d_Mo_in_6 rfl (lv_at hl 2 rfl) ?_
    refine lv_icmp_gt (tgt := 14) hx hb d_Mo_in_7 (by decide) (fun c2 => ?_) (fun c2 => ?_)
    · refine lv_iconst (v := 0) hx hb d_Mo_in_14 (by decide) ?_
      refine W.widen (k := 0) (n := 0) (Nat.le_of_ble_eq_true rfl) (Nat.le_of_ble_eq_true rfl) ?_
      exact W.zret (v := 0) hx hb hr (rfl) (fun t ht hW => ⟨⟨0, (), rfl, Or.inr ⟨Or.inr c2, rfl⟩, ⟨by rw [ht]; exact hP, hD⟩⟩, hS.F ht⟩) hS.2.2 d_Mo_in_15
    · refine lv_iconst (v := 1) hx hb d_Mo_in_10 (by decide) ?_
      refine lv_goto (tgt := 15) hx hb d_Mo_in_11 (by decide) ?_
      refine W.widen (k := 0) (n := 0) (Nat.le_of_ble_eq_true rfl) (Nat.le_of_ble_eq_true rfl) ?_
      exact W.zret (v := 1) hx hb hr (rfl) (fun t ht hW => ⟨⟨1, (), rfl, Or.inl ⟨c1, c2, rfl⟩, ⟨by rw [ht]; exact hP, hD⟩⟩, hS.F ht⟩) hS.2.2 d_Mo_in_15
set_option maxHeartbeats 4000000 in
set_option maxRecDepth 100000 in
theorem c_Mo_bad (l : Launch) (dC : Nat → ClassId) (dI : Nat → Nat → Nat) (ar : Nat → ClassId) (N0 : Nat) (z : Nat → Nat) (h0 : Nat) (fs : List Value) (b : Int32) (sz : Nat) (hfs : fs.length = 45) : Met l ({ cls := "ChannelMachineModel", name := "bad", desc := "(Z)Z" } : Jvm.MethodName) ((Jvm.Cond.code ({ cls := "ChannelMachineModel", name := "bad", desc := "(Z)Z" } : Jvm.MethodName) prog_12_method_4_code (2 : Nat) (Option.some Jvm.ClassFile.FieldType.boolean)) :: x_T) ({ frames := 0, cells := 0, slots := 0, locals := 0 }) (x_Pc (dC, dI) ar N0 z [(h0, .inr (6, fs))] sz [.ref h0, .int b]) (va_Qi (fun (r : Int32) (u : Int32) => (b = 0 ∧ r = 1 ∧ u = 1) ∨ (¬ b = 0 ∧ r = 0 ∧ u = 0)) (fun u t => va_P (dC, dI) x_cl [(h0, .inr (6, fs.set 33 (.int u)))] t.heap ∧ va_D (va_A [(h0, .inr (6, fs))] sz) [(h0, .inr (6, fs.set 33 (.int u)))]) (va_A [(h0, .inr (6, fs))] sz)) 0 0 (va_A [(h0, .inr (6, fs))] sz) := by
  refine Met.ofW (cc := prog_12_method_4_code) (maxL := 2) (ret := (some .boolean)) (by decide) rfl ?_
  intro p e s m args below meth c s₁ B hml hv
  obtain ⟨rfl, hsz, hN0, hP, hU, hZ, hD0⟩ := hv
  have hK := hU.1
  have hx := B.exec
  have hb := B.bytes
  have hr := B.returns
  have hts : ∀ w ∈ x_T, w.before ([.ref h0, .int b] : List Value).toArray s = true := fun w h => atoms_spec (ws := (Jvm.Cond.code ({ cls := "ChannelMachineModel", name := "bad", desc := "(Z)Z" } : Jvm.MethodName) prog_12_method_4_code (2 : Nat) (Option.some Jvm.ClassFile.FieldType.boolean)) :: x_T) B.pre w (List.mem_cons_of_mem _ h)
  have hown : s.vm.findClass "ChannelMachineModel" = some m.cls := findClass_of_methodNamed B.named
  have hlocks := B.notSynchronized
  subst hsz
  have hD := hD0.self (sz := s.heap.size)
  have hAN := x_AN hD0 hN0
  generalize hAe : va_A [(h0, .inr (6, fs))] s.heap.size = A at hD hAN ⊢
  have hA : ∀ q : Nat, s.heap.size ≤ q → A q := fun q h => by rw [← hAe]; exact Or.inr h
  have hS : va_S A s.heap s.heap [] := va_S.rf
  have hP : va_P (dC, dI) x_cl [(h0, .inr (6, fs))] s.heap := hP
  have hl := lv_entry ([.ref h0, .int b]) (n := 2) (Nat.le_of_ble_eq_true rfl)
  rw [lg_entry_eq]
  generalize (lg_sl ([.ref h0, .int b]) ++ List.replicate (2 - (lg_sl ([.ref h0, .int b])).length) Slot.unset).toArray = ls at hl ⊢
  have hl : lv_has ls 2 [(0, .ref h0), (1, .int b)] := hl
  have hH0 : s.heap.size ≤ s.heap.size := Nat.le_refl _
  refine lv_aload_n hx hb d_Mo_bad_0 rfl (lv_at hl 0 rfl) ?_
  refine lv_iload_n hx hb d_Mo_bad_1 rfl (lv_at hl 1 rfl) ?_
  refine lv_if_eq (tgt := 9) hx hb d_Mo_bad_2 (by decide) (fun c1 => ?_) (fun c1 => ?_)
  · refine lv_iconst (v := 1) hx hb d_Mo_bad_9 (by decide) ?_
    refine va_put (D := (dC, dI)) (ci := 6) (v := .int 1) (ty := .int) (C := "ChannelMachineModel") (T := F_Mo) (N := 45) hx hb hts i_Mo t_Mo t_Mo_ok n_Mo hown hK hP hD hS 0 rfl rfl 33 (by decide) (hts _ k_1000) (fun _ h9 => h9) rfl (by decide +kernel) rfl rfl (by first | omega | (simp; omega)) d_Mo_bad_10 (fun H locs hP hD hS => ?_)
    have hP : va_P (dC, dI) x_cl [(h0, .inr (6, (fs.set 33 (.int 1))))] H := hP
    have hD : va_D A [(h0, .inr (6, (fs.set 33 (.int 1))))] := hD
    refine lv_iload_n hx hb d_Mo_bad_13 rfl (lv_at hl 1 rfl) ?_
    refine lv_if_ne (tgt := 21) hx hb d_Mo_bad_14 (by decide) (fun c2 => absurd c1 c2) (fun _ => ?_)
    refine lv_iconst (v := 1) hx hb d_Mo_bad_17 (by decide) ?_
    refine lv_goto (tgt := 22) hx hb d_Mo_bad_18 (by decide) ?_
    refine W.widen (k := 0) (n := 0) (Nat.le_of_ble_eq_true rfl) (Nat.le_of_ble_eq_true rfl) ?_
    exact W.zret (v := 1) hx hb hr (rfl) (fun t ht hW => ⟨⟨1, 1, rfl, Or.inl ⟨c1, rfl, rfl⟩, ⟨by rw [ht]; exact hP, hD⟩⟩, hS.F ht⟩) hS.2.2 d_Mo_bad_22
  · refine lv_iconst (v := 0) hx hb d_Mo_bad_5 (by decide) ?_
    refine lv_goto (tgt := 10) hx hb d_Mo_bad_6 (by decide) ?_
    refine va_put (D := (dC, dI)) (ci := 6) (v := .int 0) (ty := .int) (C := "ChannelMachineModel") (T := F_Mo) (N := 45) hx hb hts i_Mo t_Mo t_Mo_ok n_Mo hown hK hP hD hS 0 rfl rfl 33 (by decide) (hts _ k_1000) (fun _ h9 => h9) rfl (by decide +kernel) rfl rfl (by first | omega | (simp; omega)) d_Mo_bad_10 (fun H locs hP hD hS => ?_)
    have hP : va_P (dC, dI) x_cl [(h0, .inr (6, (fs.set 33 (.int 0))))] H := hP
    have hD : va_D A [(h0, .inr (6, (fs.set 33 (.int 0))))] := hD
    refine lv_iload_n hx hb d_Mo_bad_13 rfl (lv_at hl 1 rfl) ?_
    refine lv_if_ne (tgt := 21) hx hb d_Mo_bad_14 (by decide) (fun _ => ?_) (fun c3 => absurd c3 c1)
    refine lv_iconst (v := 0) hx hb d_Mo_bad_21 (by decide) ?_
    refine W.widen (k := 0) (n := 0) (Nat.le_of_ble_eq_true rfl) (Nat.le_of_ble_eq_true rfl) ?_
    exact W.zret (v := 0) hx hb hr (rfl) (fun t ht hW => ⟨⟨0, 0, rfl, Or.inr ⟨c1, rfl, rfl⟩, ⟨by rw [ht]; exact hP, hD⟩⟩, hS.F ht⟩) hS.2.2 d_Mo_bad_22
set_option maxHeartbeats 4000000 in
set_option maxRecDepth 100000 in
theorem c_Mo_fail (l : Launch) (dC : Nat → ClassId) (dI : Nat → Nat → Nat) (ar : Nat → ClassId) (N0 : Nat) (z : Nat → Nat) (h0 : Nat) (fs : List Value) (b : Int32) (sz : Nat) (hfs : fs.length = 45) : Met l ({ cls := "ChannelMachineModel", name := "fail", desc := "(I)I" } : Jvm.MethodName) ((Jvm.Cond.code ({ cls := "ChannelMachineModel", name := "fail", desc := "(I)I" } : Jvm.MethodName) prog_12_method_5_code (2 : Nat) (Option.some Jvm.ClassFile.FieldType.int)) :: x_T) ({ frames := 0, cells := 0, slots := 0, locals := 0 }) (x_Pc (dC, dI) ar N0 z [(h0, .inr (6, fs))] sz [.ref h0, .int b]) (va_Qi (fun (r : Int32) (u : Int32) => r = 0 ∧ u = b) (fun u t => va_P (dC, dI) x_cl [(h0, .inr (6, fs.set 33 (.int u)))] t.heap ∧ va_D (va_A [(h0, .inr (6, fs))] sz) [(h0, .inr (6, fs.set 33 (.int u)))]) (va_A [(h0, .inr (6, fs))] sz)) 0 0 (va_A [(h0, .inr (6, fs))] sz) := by
  refine Met.ofW (cc := prog_12_method_5_code) (maxL := 2) (ret := (some .int)) (by decide) rfl ?_
  intro p e s m args below meth c s₁ B hml hv
  obtain ⟨rfl, hsz, hN0, hP, hU, hZ, hD0⟩ := hv
  have hK := hU.1
  have hx := B.exec
  have hb := B.bytes
  have hr := B.returns
  have hts : ∀ w ∈ x_T, w.before ([.ref h0, .int b] : List Value).toArray s = true := fun w h => atoms_spec (ws := (Jvm.Cond.code ({ cls := "ChannelMachineModel", name := "fail", desc := "(I)I" } : Jvm.MethodName) prog_12_method_5_code (2 : Nat) (Option.some Jvm.ClassFile.FieldType.int)) :: x_T) B.pre w (List.mem_cons_of_mem _ h)
  have hown : s.vm.findClass "ChannelMachineModel" = some m.cls := findClass_of_methodNamed B.named
  have hlocks := B.notSynchronized
  subst hsz
  have hD := hD0.self (sz := s.heap.size)
  have hAN := x_AN hD0 hN0
  generalize hAe : va_A [(h0, .inr (6, fs))] s.heap.size = A at hD hAN ⊢
  have hA : ∀ q : Nat, s.heap.size ≤ q → A q := fun q h => by rw [← hAe]; exact Or.inr h
  have hS : va_S A s.heap s.heap [] := va_S.rf
  have hP : va_P (dC, dI) x_cl [(h0, .inr (6, fs))] s.heap := hP
  have hl := lv_entry ([.ref h0, .int b]) (n := 2) (Nat.le_of_ble_eq_true rfl)
  rw [lg_entry_eq]
  generalize (lg_sl ([.ref h0, .int b]) ++ List.replicate (2 - (lg_sl ([.ref h0, .int b])).length) Slot.unset).toArray = ls at hl ⊢
  have hl : lv_has ls 2 [(0, .ref h0), (1, .int b)] := hl
  have hH0 : s.heap.size ≤ s.heap.size := Nat.le_refl _
  refine lv_aload_n hx hb d_Mo_fail_0 rfl (lv_at hl 0 rfl) ?_
  refine lv_iload_n hx hb d_Mo_fail_1 rfl (lv_at hl 1 rfl) ?_
  refine va_put (D := (dC, dI)) (ci := 6) (v := .int b) (ty := .int) (C := "ChannelMachineModel") (T := F_Mo) (N := 45) hx hb hts i_Mo t_Mo t_Mo_ok n_Mo hown hK hP hD hS 0 rfl rfl 33 (by decide) (hts _ k_1000) (fun _ h9 => h9) rfl (by decide +kernel) rfl rfl (by first | omega | (simp; omega)) d_Mo_fail_2 (fun H locs hP hD hS => ?_)
  have hP : va_P (dC, dI) x_cl [(h0, .inr (6, (fs.set 33 (.int b))))] H := hP
  have hD : va_D A [(h0, .inr (6, (fs.set 33 (.int b))))] := hD
  refine lv_iconst (v := 0) hx hb d_Mo_fail_5 (by decide) ?_
  refine W.widen (k := 0) (n := 0) (Nat.le_of_ble_eq_true rfl) (Nat.le_of_ble_eq_true rfl) ?_
  exact W.iret (v := 0) hx hb hr (fun t ht hW => ⟨⟨0, b, rfl, ⟨rfl, rfl⟩, ⟨by rw [ht]; exact hP, hD⟩⟩, hS.F ht⟩) hS.2.2 d_Mo_fail_6
set_option maxHeartbeats 4000000 in
set_option maxRecDepth 100000 in
theorem c_Mo_variable (l : Launch) (dC : Nat → ClassId) (dI : Nat → Nat → Nat) (ar : Nat → ClassId) (N0 : Nat) (z : Nat → Nat) (h0 m_variables : Nat) (fs : List Value) (v : Int32) (sz : Nat) (hfs : fs.length = 45) (g_variables : fs[3]? = some (.ref m_variables)) : Met l ({ cls := "ChannelMachineModel", name := "variable", desc := "(I)I" } : Jvm.MethodName) ((Jvm.Cond.code ({ cls := "ChannelMachineModel", name := "variable", desc := "(I)I" } : Jvm.MethodName) prog_12_method_45_code (2 : Nat) (Option.some Jvm.ClassFile.FieldType.int)) :: x_T) ({ frames := 1, cells := 0, slots := 0, locals := 22 }) (x_Pc (dC, dI) ar N0 z [(h0, .inr (6, fs)), (m_variables, .inl (ar 0, 6, .inl (fun _ => 0)))] sz [.ref h0, .int v]) (va_Qi (fun (r : Int32) (u : Int32) => ((¬ v < 0 ∧ ¬ 5 < v) ∧ r = 0 ∧ u = 0) ∨ ((v < 0 ∨ 5 < v) ∧ u = 1)) (fun u t => ∃ fz : List Value, va_P (dC, dI) x_cl [(h0, .inr (6, fz))] t.heap ∧ va_D (va_A [(h0, .inr (6, fs)), (m_variables, .inl (ar 0, 6, .inl (fun _ => 0)))] sz) [(h0, .inr (6, fz))] ∧ fz[33]? = some (.int u)) (va_A [(h0, .inr (6, fs)), (m_variables, .inl (ar 0, 6, .inl (fun _ => 0)))] sz)) 0 0 (va_A [(h0, .inr (6, fs)), (m_variables, .inl (ar 0, 6, .inl (fun _ => 0)))] sz) := by
  refine Met.ofW (cc := prog_12_method_45_code) (maxL := 2) (ret := (some .int)) (by decide) rfl ?_
  intro p e s m args below meth c s₁ B hml hv
  obtain ⟨rfl, hsz, hN0, hP, hU, hZ, hD0⟩ := hv
  have hK := hU.1
  have hx := B.exec
  have hb := B.bytes
  have hr := B.returns
  have hts : ∀ w ∈ x_T, w.before ([.ref h0, .int v] : List Value).toArray s = true := fun w h => atoms_spec (ws := (Jvm.Cond.code ({ cls := "ChannelMachineModel", name := "variable", desc := "(I)I" } : Jvm.MethodName) prog_12_method_45_code (2 : Nat) (Option.some Jvm.ClassFile.FieldType.int)) :: x_T) B.pre w (List.mem_cons_of_mem _ h)
  have hown : s.vm.findClass "ChannelMachineModel" = some m.cls := findClass_of_methodNamed B.named
  have hlocks := B.notSynchronized
  subst hsz
  have hD := hD0.self (sz := s.heap.size)
  have hAN := x_AN hD0 hN0
  generalize hAe : va_A [(h0, .inr (6, fs)), (m_variables, .inl (ar 0, 6, .inl (fun _ => 0)))] s.heap.size = A at hD hAN ⊢
  have hA : ∀ q : Nat, s.heap.size ≤ q → A q := fun q h => by rw [← hAe]; exact Or.inr h
  have hS : va_S A s.heap s.heap [] := va_S.rf
  have hP : va_P (dC, dI) x_cl [(h0, .inr (6, fs)), (m_variables, .inl (ar 0, 6, .inl (fun _ => 0)))] s.heap := hP
  have hl := lv_entry ([.ref h0, .int v]) (n := 2) (Nat.le_of_ble_eq_true rfl)
  rw [lg_entry_eq]
  generalize (lg_sl ([.ref h0, .int v]) ++ List.replicate (2 - (lg_sl ([.ref h0, .int v])).length) Slot.unset).toArray = ls at hl ⊢
  have hl : lv_has ls 2 [(0, .ref h0), (1, .int v)] := hl
  have hH0 : s.heap.size ≤ s.heap.size := Nat.le_refl _
  refine lv_aload_n hx hb d_Mo_variable_0 rfl (lv_at hl 0 rfl) ?_
  refine lv_iload_n hx hb d_Mo_variable_1 rfl (lv_at hl 1 rfl) ?_
  refine lv_iconst (v := 0) hx hb d_Mo_variable_2 (by decide) ?_
  refine lv_iconst (v := 5) hx hb d_Mo_variable_3 (by decide) ?_
  have hPc := hP.sub (ws' := []) [] rfl
  have hDc := hD.sub (ws' := []) [] (by decide) rfl
  have hFc := va_free (wc := []) hD hS hA [] rfl
  refine va_calli (va_runS (As := [.int v, .int 0, .int 5]) (rest := [.ref h0]) ⟨hx, hb, hml, hown, hts⟩ (c_Mo_in l dC dI ar N0 z (v) 0 5 s.heap.size) (cwS 3 hts (x_goodS k_1113 k_1114 k_9 k_1115) rfl rfl rfl (by decide +kernel) ⟨Nat.le_of_ble_eq_true rfl, Nat.le_of_ble_eq_true rfl⟩) ⟨x_blind, fun U hU9 hW => x_pre hU9 hW hPc hDc hU hZ hS hAN hN0⟩ rfl rfl hl.1 rfl (lv_room (Nat.le_of_ble_eq_true rfl)) d_Mo_variable_4 ⟨Nat.le_of_ble_eq_true rfl, Nat.le_of_ble_eq_true rfl⟩) hS (fun q _ h => hFc q h) hFc (fun r1 u2 t H1 locs ht hvm hw hB hz1 hk1 hS => ?_)
  obtain ⟨hP1, hD1⟩ := hB
  rw [ht] at hP1
  obtain ⟨hP, hD⟩ := va_join (wr := [(h0, .inr (6, fs)), (m_variables, .inl (ar 0, 6, .inl (fun _ => 0)))]) (w1 := []) hP hD [] [0, 1] rfl rfl (by decide) (by decide) hk1 hFc hP1 hD1
  generalize H1 = H at hP hS ⊢
  have hP : va_P (dC, dI) x_cl [(h0, .inr (6, fs)), (m_variables, .inl (ar 0, 6, .inl (fun _ => 0)))] H := hP
  have hD : va_D A [(h0, .inr (6, fs)), (m_variables, .inl (ar 0, 6, .inl (fun _ => 0)))] := hD
  refine W.widen (k := 0) (n := 0) (Nat.le_of_ble_eq_true rfl) (Nat.le_of_ble_eq_true rfl) ?_
  rcases hw with ⟨i3, i3', rfl⟩ | ⟨i3, rfl⟩
  · have i3 := i3
    have hPc := hP.sub (ws' := [(h0, .inr (6, fs))]) [0] rfl
    have hDc := hD.sub (ws' := [(h0, .inr (6, fs))]) [0] (by decide) rfl
    have hFc := va_free (wc := [(h0, .inr (6, fs))]) hD hS hA [0] rfl
    refine va_calli (va_runV (As := [.int 1]) (rest := []) ⟨hx, hb, hml, hown, hts⟩ (c_Mo_bad l dC dI ar N0 z h0 fs (1) H.size (by first | exact hfs | (simp; exact hfs))) (cwV 1 hts (x_goodV k_1116 k_1118 kp_48 k_9 k_1119) rfl rfl rfl (by decide +kernel) ⟨Nat.le_of_ble_eq_true rfl, Nat.le_of_ble_eq_true rfl⟩) ⟨x_blind, va_recv hK hPc (ci := 6) (q0 := 0) rfl rfl, fun U hU9 hW => x_pre hU9 hW hPc hDc hU hZ hS hAN hN0⟩ rfl rfl hl.1 rfl (lv_room (Nat.le_of_ble_eq_true rfl)) d_Mo_variable_7 ⟨Nat.le_of_ble_eq_true rfl, Nat.le_of_ble_eq_true rfl⟩) hS (fun q _ h => hFc q h) hFc (fun r4 u5 t H1 locs ht hvm hw hB hz1 hk1 hS => ?_)
    obtain ⟨hP1, hD1⟩ := hB
    rw [ht] at hP1
    obtain ⟨hP, hD⟩ := va_join (wr := [(m_variables, .inl (ar 0, 6, .inl (fun _ => 0)))]) (w1 := [(h0, .inr (6, (fs.set 33 (.int u5))))]) hP hD [0] [1] rfl rfl (by decide) (by decide) hk1 hFc hP1 hD1
    generalize H1 = H at hP hS ⊢
    have hP : va_P (dC, dI) x_cl [(m_variables, .inl (ar 0, 6, .inl (fun _ => 0))), (h0, .inr (6, (fs.set 33 (.int u5))))] H := hP
    have hD : va_D A [(m_variables, .inl (ar 0, 6, .inl (fun _ => 0))), (h0, .inr (6, (fs.set 33 (.int u5))))] := hD
    refine W.widen (k := 0) (n := 0) (Nat.le_of_ble_eq_true rfl) (Nat.le_of_ble_eq_true rfl) ?_
    rcases hw with ⟨h9, rfl, rfl⟩ | ⟨h9, rfl, rfl⟩
    · exact absurd h9 (by decide)
    · refine lv_if_eq (tgt := 15) hx hb d_Mo_variable_10 (by decide) (fun _ => ?_) (fun c6 => absurd (by decide) c6)
      refine lv_aload_n hx hb d_Mo_variable_15 rfl (lv_at hl 0 rfl) ?_
      refine va_get (D := (dC, dI)) (ci := 6) (v := .ref m_variables) (C := "ChannelMachineModel") (T := F_Mo) (N := 45) hx hb hts i_Mo hown hK hP 1 rfl rfl 3 (by decide) (hts _ k_970) (fun _ h9 => h9) (x_gs (by decide) g_variables) d_Mo_variable_16 ?_
      refine lv_iload_n hx hb d_Mo_variable_19 rfl (lv_at hl 1 rfl) ?_
      refine va_iald hx hb hK hP 0 0 rfl rfl (x_in5 i3 i3') d_Mo_variable_20 ?_
      refine W.widen (k := 0) (n := 0) (Nat.le_of_ble_eq_true rfl) (Nat.le_of_ble_eq_true rfl) ?_
      exact W.iret (v := 0) hx hb hr (fun t ht hW => ⟨⟨0, 0, rfl, Or.inl ⟨⟨i3, i3'⟩, rfl, rfl⟩, ⟨(fs.set 33 (.int 0)), by rw [ht]; exact hP.sub (ws' := [(h0, .inr (6, (fs.set 33 (.int 0))))]) [1] rfl, hD.sub (ws' := [(h0, .inr (6, (fs.set 33 (.int 0))))]) [1] (by decide) rfl, (x_ge (by first | omega | (simp; omega)))⟩⟩, hS.F ht⟩) hS.2.2 d_Mo_variable_21
  · have i3 := i3
    have hPc := hP.sub (ws' := [(h0, .inr (6, fs))]) [0] rfl
    have hDc := hD.sub (ws' := [(h0, .inr (6, fs))]) [0] (by decide) rfl
    have hFc := va_free (wc := [(h0, .inr (6, fs))]) hD hS hA [0] rfl
    refine va_calli (va_runV (As := [.int 0]) (rest := []) ⟨hx, hb, hml, hown, hts⟩ (c_Mo_bad l dC dI ar N0 z h0 fs (0) H.size (by first | exact hfs | (simp; exact hfs))) (cwV 1 hts (x_goodV k_1116 k_1118 kp_48 k_9 k_1119) rfl rfl rfl (by decide +kernel) ⟨Nat.le_of_ble_eq_true rfl, Nat.le_of_ble_eq_true rfl⟩) ⟨x_blind, va_recv hK hPc (ci := 6) (q0 := 0) rfl rfl, fun U hU9 hW => x_pre hU9 hW hPc hDc hU hZ hS hAN hN0⟩ rfl rfl hl.1 rfl (lv_room (Nat.le_of_ble_eq_true rfl)) d_Mo_variable_7 ⟨Nat.le_of_ble_eq_true rfl, Nat.le_of_ble_eq_true rfl⟩) hS (fun q _ h => hFc q h) hFc (fun r7 u8 t H1 locs ht hvm hw hB hz1 hk1 hS => ?_)
    obtain ⟨hP1, hD1⟩ := hB
    rw [ht] at hP1
    obtain ⟨hP, hD⟩ := va_join (wr := [(m_variables, .inl (ar 0, 6, .inl (fun _ => 0)))]) (w1 := [(h0, .inr (6, (fs.set 33 (.int u8))))]) hP hD [0] [1] rfl rfl (by decide) (by decide) hk1 hFc hP1 hD1
    generalize H1 = H at hP hS ⊢
    have hP : va_P (dC, dI) x_cl [(m_variables, .inl (ar 0, 6, .inl (fun _ => 0))), (h0, .inr (6, (fs.set 33 (.int u8))))] H := hP
    have hD : va_D A [(m_variables, .inl (ar 0, 6, .inl (fun _ => 0))), (h0, .inr (6, (fs.set 33 (.int u8))))] := hD
    refine W.widen (k := 0) (n := 0) (Nat.le_of_ble_eq_true rfl) (Nat.le_of_ble_eq_true rfl) ?_
    rcases hw with ⟨h9, rfl, rfl⟩ | ⟨h9, rfl, rfl⟩
    · refine lv_if_eq (tgt := 15) hx hb d_Mo_variable_10 (by decide) (fun c9 => absurd c9 (by decide)) (fun _ => ?_)
      refine lv_iconst (v := 0) hx hb d_Mo_variable_13 (by decide) ?_
      refine W.widen (k := 0) (n := 0) (Nat.le_of_ble_eq_true rfl) (Nat.le_of_ble_eq_true rfl) ?_
      exact W.iret (v := 0) hx hb hr (fun t ht hW => ⟨⟨0, 1, rfl, Or.inr ⟨i3, rfl⟩, ⟨(fs.set 33 (.int 1)), by rw [ht]; exact hP.sub (ws' := [(h0, .inr (6, (fs.set 33 (.int 1))))]) [1] rfl, hD.sub (ws' := [(h0, .inr (6, (fs.set 33 (.int 1))))]) [1] (by decide) rfl, (x_ge (by first | omega | (simp; omega)))⟩⟩, hS.F ht⟩) hS.2.2 d_Mo_variable_14
    · exact absurd rfl h9
set_option maxHeartbeats 4000000 in
set_option maxRecDepth 100000 in
theorem c_Mo_set (l : Launch) (dC : Nat → ClassId) (dI : Nat → Nat → Nat) (ar : Nat → ClassId) (N0 : Nat) (z : Nat → Nat) (h0 m_variables : Nat) (fs : List Value) (v x : Int32) (sz : Nat) (hfs : fs.length = 45) (g_variables : fs[3]? = some (.ref m_variables)) : Met l ({ cls := "ChannelMachineModel", name := "set", desc := "(II)V" } : Jvm.MethodName) ((Jvm.Cond.code ({ cls := "ChannelMachineModel", name := "set", desc := "(II)V" } : Jvm.MethodName) prog_12_method_46_code (3 : Nat) (Option.none : Option Jvm.ClassFile.FieldType)) :: x_T) ({ frames := 1, cells := 0, slots := 0, locals := 22 }) (x_Pc (dC, dI) ar N0 z [(h0, .inr (6, fs)), (m_variables, .inl (ar 0, 6, .inl (fun _ => 0)))] sz [.ref h0, .int v, .int x]) (va_Qv (fun (u : Int32) => ((¬ v < 0 ∧ ¬ 5 < v) ∧ u = 0) ∨ ((v < 0 ∨ 5 < v) ∧ u = 1)) (fun u t => ∃ fz : List Value, va_P (dC, dI) x_cl [(h0, .inr (6, fz))] t.heap ∧ va_D (va_A [(h0, .inr (6, fs)), (m_variables, .inl (ar 0, 6, .inl (fun _ => 0)))] sz) [(h0, .inr (6, fz))] ∧ fz[33]? = some (.int u)) (va_A [(h0, .inr (6, fs)), (m_variables, .inl (ar 0, 6, .inl (fun _ => 0)))] sz)) 0 0 (va_A [(h0, .inr (6, fs)), (m_variables, .inl (ar 0, 6, .inl (fun _ => 0)))] sz) := by
  refine Met.ofW (cc := prog_12_method_46_code) (maxL := 3) (ret := none) (by decide) rfl ?_
  intro p e s m args below meth c s₁ B hml hv
  obtain ⟨rfl, hsz, hN0, hP, hU, hZ, hD0⟩ := hv
  have hK := hU.1
  have hx := B.exec
  have hb := B.bytes
  have hr := B.returns
  have hts : ∀ w ∈ x_T, w.before ([.ref h0, .int v, .int x] : List Value).toArray s = true := fun w h => atoms_spec (ws := (Jvm.Cond.code ({ cls := "ChannelMachineModel", name := "set", desc := "(II)V" } : Jvm.MethodName) prog_12_method_46_code (3 : Nat) (Option.none : Option Jvm.ClassFile.FieldType)) :: x_T) B.pre w (List.mem_cons_of_mem _ h)
  have hown : s.vm.findClass "ChannelMachineModel" = some m.cls := findClass_of_methodNamed B.named
  have hlocks := B.notSynchronized
  subst hsz
  have hD := hD0.self (sz := s.heap.size)
  have hAN := x_AN hD0 hN0
  generalize hAe : va_A [(h0, .inr (6, fs)), (m_variables, .inl (ar 0, 6, .inl (fun _ => 0)))] s.heap.size = A at hD hAN ⊢
  have hA : ∀ q : Nat, s.heap.size ≤ q → A q := fun q h => by rw [← hAe]; exact Or.inr h
  have hS : va_S A s.heap s.heap [] := va_S.rf
  have hP : va_P (dC, dI) x_cl [(h0, .inr (6, fs)), (m_variables, .inl (ar 0, 6, .inl (fun _ => 0)))] s.heap := hP
  have hl := lv_entry ([.ref h0, .int v, .int x]) (n := 3) (Nat.le_of_ble_eq_true rfl)
  rw [lg_entry_eq]
  generalize (lg_sl ([.ref h0, .int v, .int x]) ++ List.replicate (3 - (lg_sl ([.ref h0, .int v, .int x])).length) Slot.unset).toArray = ls at hl ⊢
  have hl : lv_has ls 3 [(0, .ref h0), (1, .int v), (2, .int x)] := hl
  have hH0 : s.heap.size ≤ s.heap.size := Nat.le_refl _
  refine lv_aload_n hx hb d_Mo_set_0 rfl (lv_at hl 0 rfl) ?_
  refine lv_iload_n hx hb d_Mo_set_1 rfl (lv_at hl 1 rfl) ?_
  refine lv_iconst (v := 0) hx hb d_Mo_set_2 (by decide) ?_
  refine lv_iconst (v := 5) hx hb d_Mo_set_3 (by decide) ?_
  have hPc := hP.sub (ws' := []) [] rfl
  have hDc := hD.sub (ws' := []) [] (by decide) rfl
  have hFc := va_free (wc := []) hD hS hA [] rfl
  refine va_calli (va_runS (As := [.int v, .int 0, .int 5]) (rest := [.ref h0]) ⟨hx, hb, hml, hown, hts⟩ (c_Mo_in l dC dI ar N0 z (v) 0 5 s.heap.size) (cwS 3 hts (x_goodS k_1113 k_1114 k_9 k_1115) rfl rfl rfl (by decide +kernel) ⟨Nat.le_of_ble_eq_true rfl, Nat.le_of_ble_eq_true rfl⟩) ⟨x_blind, fun U hU9 hW => x_pre hU9 hW hPc hDc hU hZ hS hAN hN0⟩ rfl rfl hl.1 rfl (lv_room (Nat.le_of_ble_eq_true rfl)) d_Mo_set_4 ⟨Nat.le_of_ble_eq_true rfl, Nat.le_of_ble_eq_true rfl⟩) hS (fun q _ h => hFc q h) hFc (fun r1 u2 t H1 locs ht hvm hw hB hz1 hk1 hS => ?_)
  obtain ⟨hP1, hD1⟩ := hB
  rw [ht] at hP1
  obtain ⟨hP, hD⟩ := va_join (wr := [(h0, .inr (6, fs)), (m_variables, .inl (ar 0, 6, .inl (fun _ => 0)))]) (w1 := []) hP hD [] [0, 1] rfl rfl (by decide) (by decide) hk1 hFc hP1 hD1
  generalize H1 = H at hP hS ⊢
  have hP : va_P (dC, dI) x_cl [(h0, .inr (6, fs)), (m_variables, .inl (ar 0, 6, .inl (fun _ => 0)))] H := hP
  have hD : va_D A [(h0, .inr (6, fs)), (m_variables, .inl (ar 0, 6, .inl (fun _ => 0)))] := hD
  refine W.widen (k := 0) (n := 0) (Nat.le_of_ble_eq_true rfl) (Nat.le_of_ble_eq_true rfl) ?_
  rcases hw with ⟨i3, i3', rfl⟩ | ⟨i3, rfl⟩
  · have i3 := i3
    have hPc := hP.sub (ws' := [(h0, .inr (6, fs))]) [0] rfl
    have hDc := hD.sub (ws' := [(h0, .inr (6, fs))]) [0] (by decide) rfl
    have hFc := va_free (wc := [(h0, .inr (6, fs))]) hD hS hA [0] rfl
    refine va_calli (va_runV (As := [.int 1]) (rest := []) ⟨hx, hb, hml, hown, hts⟩ (c_Mo_bad l dC dI ar N0 z h0 fs (1) H.size (by first | exact hfs | (simp; exact hfs))) (cwV 1 hts (x_goodV k_1116 k_1118 kp_48 k_9 k_1119) rfl rfl rfl (by decide +kernel) ⟨Nat.le_of_ble_eq_true rfl, Nat.le_of_ble_eq_true rfl⟩) ⟨x_blind, va_recv hK hPc (ci := 6) (q0 := 0) rfl rfl, fun U hU9 hW => x_pre hU9 hW hPc hDc hU hZ hS hAN hN0⟩ rfl rfl hl.1 rfl (lv_room (Nat.le_of_ble_eq_true rfl)) d_Mo_set_7 ⟨Nat.le_of_ble_eq_true rfl, Nat.le_of_ble_eq_true rfl⟩) hS (fun q _ h => hFc q h) hFc (fun r4 u5 t H1 locs ht hvm hw hB hz1 hk1 hS => ?_)
    obtain ⟨hP1, hD1⟩ := hB
    rw [ht] at hP1
    obtain ⟨hP, hD⟩ := va_join (wr := [(m_variables, .inl (ar 0, 6, .inl (fun _ => 0)))]) (w1 := [(h0, .inr (6, (fs.set 33 (.int u5))))]) hP hD [0] [1] rfl rfl (by decide) (by decide) hk1 hFc hP1 hD1
    generalize H1 = H at hP hS ⊢
    have hP : va_P (dC, dI) x_cl [(m_variables, .inl (ar 0, 6, .inl (fun _ => 0))), (h0, .inr (6, (fs.set 33 (.int u5))))] H := hP
    have hD : va_D A [(m_variables, .inl (ar 0, 6, .inl (fun _ => 0))), (h0, .inr (6, (fs.set 33 (.int u5))))] := hD
    refine W.widen (k := 0) (n := 0) (Nat.le_of_ble_eq_true rfl) (Nat.le_of_ble_eq_true rfl) ?_
    rcases hw with ⟨h9, rfl, rfl⟩ | ⟨h9, rfl, rfl⟩
    · exact absurd h9 (by decide)
    · refine lv_if_eq (tgt := 14) hx hb d_Mo_set_10 (by decide) (fun _ => ?_) (fun c6 => absurd (by decide) c6)
      refine lv_aload_n hx hb d_Mo_set_14 rfl (lv_at hl 0 rfl) ?_
      refine va_get (D := (dC, dI)) (ci := 6) (v := .ref m_variables) (C := "ChannelMachineModel") (T := F_Mo) (N := 45) hx hb hts i_Mo hown hK hP 1 rfl rfl 3 (by decide) (hts _ k_970) (fun _ h9 => h9) (x_gs (by decide) g_variables) d_Mo_set_15 ?_
      refine lv_iload_n hx hb d_Mo_set_18 rfl (lv_at hl 1 rfl) ?_
      refine lv_iload_n hx hb d_Mo_set_19 rfl (lv_at hl 2 rfl) ?_
      refine va_iast hx hb hK hP hD hS 0 0 rfl rfl (i := v) (x := x) (x_in5 i3 i3') d_Mo_set_20 (fun H locs hP hD hS => ?_)
      have hP : va_P (dC, dI) x_cl [(m_variables, .inl (ar 0, 6, .inl (upd (fun _ => 0) (Int32.toNatClampNeg v) x))), (h0, .inr (6, (fs.set 33 (.int 0))))] H := hP
      have hD : va_D A [(m_variables, .inl (ar 0, 6, .inl (upd (fun _ => 0) (Int32.toNatClampNeg v) x))), (h0, .inr (6, (fs.set 33 (.int 0))))] := hD
      refine W.widen (k := 0) (n := 0) (Nat.le_of_ble_eq_true rfl) (Nat.le_of_ble_eq_true rfl) ?_
      exact W.vret hx hb hr (fun t ht hW => ⟨⟨0, rfl, Or.inl ⟨⟨i3, i3'⟩, rfl⟩, ⟨(fs.set 33 (.int 0)), by rw [ht]; exact hP.sub (ws' := [(h0, .inr (6, (fs.set 33 (.int 0))))]) [1] rfl, hD.sub (ws' := [(h0, .inr (6, (fs.set 33 (.int 0))))]) [1] (by decide) rfl, (x_ge (by first | omega | (simp; omega)))⟩⟩, hS.F ht⟩) hS.2.2 d_Mo_set_21
  · have i3 := i3
    have hPc := hP.sub (ws' := [(h0, .inr (6, fs))]) [0] rfl
    have hDc := hD.sub (ws' := [(h0, .inr (6, fs))]) [0] (by decide) rfl
    have hFc := va_free (wc := [(h0, .inr (6, fs))]) hD hS hA [0] rfl
    refine va_calli (va_runV (As := [.int 0]) (rest := []) ⟨hx, hb, hml, hown, hts⟩ (c_Mo_bad l dC dI ar N0 z h0 fs (0) H.size (by first | exact hfs | (simp; exact hfs))) (cwV 1 hts (x_goodV k_1116 k_1118 kp_48 k_9 k_1119) rfl rfl rfl (by decide +kernel) ⟨Nat.le_of_ble_eq_true rfl, Nat.le_of_ble_eq_true rfl⟩) ⟨x_blind, va_recv hK hPc (ci := 6) (q0 := 0) rfl rfl, fun U hU9 hW => x_pre hU9 hW hPc hDc hU hZ hS hAN hN0⟩ rfl rfl hl.1 rfl (lv_room (Nat.le_of_ble_eq_true rfl)) d_Mo_set_7 ⟨Nat.le_of_ble_eq_true rfl, Nat.le_of_ble_eq_true rfl⟩) hS (fun q _ h => hFc q h) hFc (fun r7 u8 t H1 locs ht hvm hw hB hz1 hk1 hS => ?_)
    obtain ⟨hP1, hD1⟩ := hB
    rw [ht] at hP1
    obtain ⟨hP, hD⟩ := va_join (wr := [(m_variables, .inl (ar 0, 6, .inl (fun _ => 0)))]) (w1 := [(h0, .inr (6, (fs.set 33 (.int u8))))]) hP hD [0] [1] rfl rfl (by decide) (by decide) hk1 hFc hP1 hD1
    generalize H1 = H at hP hS ⊢
    have hP : va_P (dC, dI) x_cl [(m_variables, .inl (ar 0, 6, .inl (fun _ => 0))), (h0, .inr (6, (fs.set 33 (.int u8))))] H := hP
    have hD : va_D A [(m_variables, .inl (ar 0, 6, .inl (fun _ => 0))), (h0, .inr (6, (fs.set 33 (.int u8))))] := hD
    refine W.widen (k := 0) (n := 0) (Nat.le_of_ble_eq_true rfl) (Nat.le_of_ble_eq_true rfl) ?_
    rcases hw with ⟨h9, rfl, rfl⟩ | ⟨h9, rfl, rfl⟩
    · refine lv_if_eq (tgt := 14) hx hb d_Mo_set_10 (by decide) (fun c9 => absurd c9 (by decide)) (fun _ => ?_)
      refine W.widen (k := 0) (n := 0) (Nat.le_of_ble_eq_true rfl) (Nat.le_of_ble_eq_true rfl) ?_
      exact W.vret hx hb hr (fun t ht hW => ⟨⟨1, rfl, Or.inr ⟨i3, rfl⟩, ⟨(fs.set 33 (.int 1)), by rw [ht]; exact hP.sub (ws' := [(h0, .inr (6, (fs.set 33 (.int 1))))]) [1] rfl, hD.sub (ws' := [(h0, .inr (6, (fs.set 33 (.int 1))))]) [1] (by decide) rfl, (x_ge (by first | omega | (simp; omega)))⟩⟩, hS.F ht⟩) hS.2.2 d_Mo_set_13
    · exact absurd rfl h9
set_option maxHeartbeats 4000000 in
set_option maxRecDepth 100000 in
theorem c_Mo_channel (l : Launch) (dC : Nat → ClassId) (dI : Nat → Nat → Nat) (ar : Nat → ClassId) (N0 : Nat) (z : Nat → Nat) (h0 : Nat) (fs : List Value) (v : Int32) (sz : Nat) (hfs : fs.length = 45) (g_status : fs[9]? = some (.int 0)) : Met l ({ cls := "ChannelMachineModel", name := "channel", desc := "(I)I" } : Jvm.MethodName) ((Jvm.Cond.code ({ cls := "ChannelMachineModel", name := "channel", desc := "(I)I" } : Jvm.MethodName) prog_12_method_47_code (2 : Nat) (Option.some Jvm.ClassFile.FieldType.int)) :: x_T) ({ frames := 1, cells := 0, slots := 0, locals := 22 }) (x_Pc (dC, dI) ar N0 z [(h0, .inr (6, fs))] sz [.ref h0, .int v]) (va_Qi (fun (r : Int32) (u : Int32) => ((¬ v < 0 ∧ ¬ 5 < v) ∧ r = 0 ∧ u = 0) ∨ ((v < 0 ∨ 5 < v) ∧ u = 1)) (fun u t => ∃ fz : List Value, va_P (dC, dI) x_cl [(h0, .inr (6, fz))] t.heap ∧ va_D (va_A [(h0, .inr (6, fs))] sz) [(h0, .inr (6, fz))] ∧ fz[33]? = some (.int u)) (va_A [(h0, .inr (6, fs))] sz)) 0 0 (va_A [(h0, .inr (6, fs))] sz) := by
  refine Met.ofW (cc := prog_12_method_47_code) (maxL := 2) (ret := (some .int)) (by decide) rfl ?_
  intro p e s m args below meth c s₁ B hml hv
  obtain ⟨rfl, hsz, hN0, hP, hU, hZ, hD0⟩ := hv
  have hK := hU.1
  have hx := B.exec
  have hb := B.bytes
  have hr := B.returns
  have hts : ∀ w ∈ x_T, w.before ([.ref h0, .int v] : List Value).toArray s = true := fun w h => atoms_spec (ws := (Jvm.Cond.code ({ cls := "ChannelMachineModel", name := "channel", desc := "(I)I" } : Jvm.MethodName) prog_12_method_47_code (2 : Nat) (Option.some Jvm.ClassFile.FieldType.int)) :: x_T) B.pre w (List.mem_cons_of_mem _ h)
  have hown : s.vm.findClass "ChannelMachineModel" = some m.cls := findClass_of_methodNamed B.named
  have hlocks := B.notSynchronized
  subst hsz
  have hD := hD0.self (sz := s.heap.size)
  have hAN := x_AN hD0 hN0
  generalize hAe : va_A [(h0, .inr (6, fs))] s.heap.size = A at hD hAN ⊢
  have hA : ∀ q : Nat, s.heap.size ≤ q → A q := fun q h => by rw [← hAe]; exact Or.inr h
  have hS : va_S A s.heap s.heap [] := va_S.rf
  have hP : va_P (dC, dI) x_cl [(h0, .inr (6, fs))] s.heap := hP
  have hl := lv_entry ([.ref h0, .int v]) (n := 2) (Nat.le_of_ble_eq_true rfl)
  rw [lg_entry_eq]
  generalize (lg_sl ([.ref h0, .int v]) ++ List.replicate (2 - (lg_sl ([.ref h0, .int v])).length) Slot.unset).toArray = ls at hl ⊢
  have hl : lv_has ls 2 [(0, .ref h0), (1, .int v)] := hl
  have hH0 : s.heap.size ≤ s.heap.size := Nat.le_refl _
  refine lv_aload_n hx hb d_Mo_channel_0 rfl (lv_at hl 0 rfl) ?_
  refine lv_iload_n hx hb d_Mo_channel_1 rfl (lv_at hl 1 rfl) ?_
  refine lv_iconst (v := 0) hx hb d_Mo_channel_2 (by decide) ?_
  refine lv_iconst (v := 5) hx hb d_Mo_channel_3 (by decide) ?_
  have hPc := hP.sub (ws' := []) [] rfl
  have hDc := hD.sub (ws' := []) [] (by decide) rfl
  have hFc := va_free (wc := []) hD hS hA [] rfl
  refine va_calli (va_runS (As := [.int v, .int 0, .int 5]) (rest := [.ref h0]) ⟨hx, hb, hml, hown, hts⟩ (c_Mo_in l dC dI ar N0 z (v) 0 5 s.heap.size) (cwS 3 hts (x_goodS k_1113 k_1114 k_9 k_1115) rfl rfl rfl (by decide +kernel) ⟨Nat.le_of_ble_eq_true rfl, Nat.le_of_ble_eq_true rfl⟩) ⟨x_blind, fun U hU9 hW => x_pre hU9 hW hPc hDc hU hZ hS hAN hN0⟩ rfl rfl hl.1 rfl (lv_room (Nat.le_of_ble_eq_true rfl)) d_Mo_channel_4 ⟨Nat.le_of_ble_eq_true rfl, Nat.le_of_ble_eq_true rfl⟩) hS (fun q _ h => hFc q h) hFc (fun r1 u2 t H1 locs ht hvm hw hB hz1 hk1 hS => ?_)
  obtain ⟨hP1, hD1⟩ := hB
  rw [ht] at hP1
  obtain ⟨hP, hD⟩ := va_join (wr := [(h0, .inr (6, fs))]) (w1 := []) hP hD [] [0] rfl rfl (by decide) (by decide) hk1 hFc hP1 hD1
  generalize H1 = H at hP hS ⊢
  have hP : va_P (dC, dI) x_cl [(h0, .inr (6, fs))] H := hP
  have hD : va_D A [(h0, .inr (6, fs))] := hD
  refine W.widen (k := 0) (n := 0) (Nat.le_of_ble_eq_true rfl) (Nat.le_of_ble_eq_true rfl) ?_
  rcases hw with ⟨i3, i3', rfl⟩ | ⟨i3, rfl⟩
  · have i3 := i3
    have hPc := hP.sub (ws' := [(h0, .inr (6, fs))]) [0] rfl
    have hDc := hD.sub (ws' := [(h0, .inr (6, fs))]) [0] (by decide) rfl
    have hFc := va_free (wc := [(h0, .inr (6, fs))]) hD hS hA [0] rfl
    refine va_calli (va_runV (As := [.int 1]) (rest := []) ⟨hx, hb, hml, hown, hts⟩ (c_Mo_bad l dC dI ar N0 z h0 fs (1) H.size (by first | exact hfs | (simp; exact hfs))) (cwV 1 hts (x_goodV k_1116 k_1118 kp_48 k_9 k_1119) rfl rfl rfl (by decide +kernel) ⟨Nat.le_of_ble_eq_true rfl, Nat.le_of_ble_eq_true rfl⟩) ⟨x_blind, va_recv hK hPc (ci := 6) (q0 := 0) rfl rfl, fun U hU9 hW => x_pre hU9 hW hPc hDc hU hZ hS hAN hN0⟩ rfl rfl hl.1 rfl (lv_room (Nat.le_of_ble_eq_true rfl)) d_Mo_channel_7 ⟨Nat.le_of_ble_eq_true rfl, Nat.le_of_ble_eq_true rfl⟩) hS (fun q _ h => hFc q h) hFc (fun r4 u5 t H1 locs ht hvm hw hB hz1 hk1 hS => ?_)
    obtain ⟨hP1, hD1⟩ := hB
    rw [ht] at hP1
    obtain ⟨hP, hD⟩ := va_join (wr := []) (w1 := [(h0, .inr (6, (fs.set 33 (.int u5))))]) hP hD [0] [] rfl rfl (by decide) (by decide) hk1 hFc hP1 hD1
    generalize H1 = H at hP hS ⊢
    have hP : va_P (dC, dI) x_cl [(h0, .inr (6, (fs.set 33 (.int u5))))] H := hP
    have hD : va_D A [(h0, .inr (6, (fs.set 33 (.int u5))))] := hD
    refine W.widen (k := 0) (n := 0) (Nat.le_of_ble_eq_true rfl) (Nat.le_of_ble_eq_true rfl) ?_
    rcases hw with ⟨h9, rfl, rfl⟩ | ⟨h9, rfl, rfl⟩
    · exact absurd h9 (by decide)
    · refine lv_if_ne (tgt := 21) hx hb d_Mo_channel_10 (by decide) (fun c6 => absurd rfl c6) (fun _ => ?_)
      refine lv_aload_n hx hb d_Mo_channel_13 rfl (lv_at hl 0 rfl) ?_
      refine va_get (D := (dC, dI)) (ci := 6) (v := .int 0) (C := "ChannelMachineModel") (T := F_Mo) (N := 45) hx hb hts i_Mo hown hK hP 0 rfl rfl 9 (by decide) (hts _ k_976) (fun _ h9 => h9) (x_gs (by decide) g_status) d_Mo_channel_14 ?_
      refine lv_iconst (v := 1) hx hb d_Mo_channel_17 (by decide) ?_
      refine lv_icmp_eq (tgt := 23) hx hb d_Mo_channel_18 (by decide) (fun c7 => absurd c7 (by decide)) (fun _ => ?_)
      refine lv_iconst (v := 0) hx hb d_Mo_channel_21 (by decide) ?_
      refine W.widen (k := 0) (n := 0) (Nat.le_of_ble_eq_true rfl) (Nat.le_of_ble_eq_true rfl) ?_
      exact W.iret (v := 0) hx hb hr (fun t ht hW => ⟨⟨0, 0, rfl, Or.inl ⟨⟨i3, i3'⟩, rfl, rfl⟩, ⟨(fs.set 33 (.int 0)), by rw [ht]; exact hP.sub (ws' := [(h0, .inr (6, (fs.set 33 (.int 0))))]) [0] rfl, hD.sub (ws' := [(h0, .inr (6, (fs.set 33 (.int 0))))]) [0] (by decide) rfl, (x_ge (by first | omega | (simp; omega)))⟩⟩, hS.F ht⟩) hS.2.2 d_Mo_channel_22
  · have i3 := i3
    have hPc := hP.sub (ws' := [(h0, .inr (6, fs))]) [0] rfl
    have hDc := hD.sub (ws' := [(h0, .inr (6, fs))]) [0] (by decide) rfl
    have hFc := va_free (wc := [(h0, .inr (6, fs))]) hD hS hA [0] rfl
    refine va_calli (va_runV (As := [.int 0]) (rest := []) ⟨hx, hb, hml, hown, hts⟩ (c_Mo_bad l dC dI ar N0 z h0 fs (0) H.size (by first | exact hfs | (simp; exact hfs))) (cwV 1 hts (x_goodV k_1116 k_1118 kp_48 k_9 k_1119) rfl rfl rfl (by decide +kernel) ⟨Nat.le_of_ble_eq_true rfl, Nat.le_of_ble_eq_true rfl⟩) ⟨x_blind, va_recv hK hPc (ci := 6) (q0 := 0) rfl rfl, fun U hU9 hW => x_pre hU9 hW hPc hDc hU hZ hS hAN hN0⟩ rfl rfl hl.1 rfl (lv_room (Nat.le_of_ble_eq_true rfl)) d_Mo_channel_7 ⟨Nat.le_of_ble_eq_true rfl, Nat.le_of_ble_eq_true rfl⟩) hS (fun q _ h => hFc q h) hFc (fun r8 u9 t H1 locs ht hvm hw hB hz1 hk1 hS => ?_)
    obtain ⟨hP1, hD1⟩ := hB
    rw [ht] at hP1
    obtain ⟨hP, hD⟩ := va_join (wr := []) (w1 := [(h0, .inr (6, (fs.set 33 (.int u9))))]) hP hD [0] [] rfl rfl (by decide) (by decide) hk1 hFc hP1 hD1
    generalize H1 = H at hP hS ⊢
    have hP : va_P (dC, dI) x_cl [(h0, .inr (6, (fs.set 33 (.int u9))))] H := hP
    have hD : va_D A [(h0, .inr (6, (fs.set 33 (.int u9))))] := hD
    refine W.widen (k := 0) (n := 0) (Nat.le_of_ble_eq_true rfl) (Nat.le_of_ble_eq_true rfl) ?_
    rcases hw with ⟨h9, rfl, rfl⟩ | ⟨h9, rfl, rfl⟩
    · refine lv_if_ne (tgt := 21) hx hb d_Mo_channel_10 (by decide) (fun _ => ?_) (fun c10 => absurd c10 (by decide))
      refine lv_iconst (v := 0) hx hb d_Mo_channel_21 (by decide) ?_
      refine W.widen (k := 0) (n := 0) (Nat.le_of_ble_eq_true rfl) (Nat.le_of_ble_eq_true rfl) ?_
      exact W.iret (v := 0) hx hb hr (fun t ht hW => ⟨⟨0, 1, rfl, Or.inr ⟨i3, rfl⟩, ⟨(fs.set 33 (.int 1)), by rw [ht]; exact hP.sub (ws' := [(h0, .inr (6, (fs.set 33 (.int 1))))]) [0] rfl, hD.sub (ws' := [(h0, .inr (6, (fs.set 33 (.int 1))))]) [0] (by decide) rfl, (x_ge (by first | omega | (simp; omega)))⟩⟩, hS.F ht⟩) hS.2.2 d_Mo_channel_22
    · exact absurd rfl h9
set_option maxHeartbeats 4000000 in
set_option maxRecDepth 100000 in
theorem c_Mo_take (l : Launch) (dC : Nat → ClassId) (dI : Nat → Nat → Nat) (ar : Nat → ClassId) (N0 : Nat) (z : Nat → Nat) (h0 : Nat) (fs : List Value) (sz : Nat) (hfs : fs.length = 45) (g_boxed : fs[43]? = some (.int 0)) : Met l ({ cls := "ChannelMachineModel", name := "take", desc := "()I" } : Jvm.MethodName) ((Jvm.Cond.code ({ cls := "ChannelMachineModel", name := "take", desc := "()I" } : Jvm.MethodName) prog_12_method_44_code (2 : Nat) (Option.some Jvm.ClassFile.FieldType.int)) :: x_T) ({ frames := 1, cells := 0, slots := 0, locals := 21 }) (x_Pc (dC, dI) ar N0 z [(h0, .inr (6, fs))] sz [.ref h0]) (va_Qi (fun (r : Int32) (u : Int32) => u = 1) (fun u t => ∃ fz : List Value, va_P (dC, dI) x_cl [(h0, .inr (6, fz))] t.heap ∧ va_D (va_A [(h0, .inr (6, fs))] sz) [(h0, .inr (6, fz))] ∧ fz[33]? = some (.int u)) (va_A [(h0, .inr (6, fs))] sz)) 0 0 (va_A [(h0, .inr (6, fs))] sz) := by
  refine Met.ofW (cc := prog_12_method_44_code) (maxL := 2) (ret := (some .int)) (by decide) rfl ?_
  intro p e s m args below meth c s₁ B hml hv
  obtain ⟨rfl, hsz, hN0, hP, hU, hZ, hD0⟩ := hv
  have hK := hU.1
  have hx := B.exec
  have hb := B.bytes
  have hr := B.returns
  have hts : ∀ w ∈ x_T, w.before ([.ref h0] : List Value).toArray s = true := fun w h => atoms_spec (ws := (Jvm.Cond.code ({ cls := "ChannelMachineModel", name := "take", desc := "()I" } : Jvm.MethodName) prog_12_method_44_code (2 : Nat) (Option.some Jvm.ClassFile.FieldType.int)) :: x_T) B.pre w (List.mem_cons_of_mem _ h)
  have hown : s.vm.findClass "ChannelMachineModel" = some m.cls := findClass_of_methodNamed B.named
  have hlocks := B.notSynchronized
  subst hsz
  have hD := hD0.self (sz := s.heap.size)
  have hAN := x_AN hD0 hN0
  generalize hAe : va_A [(h0, .inr (6, fs))] s.heap.size = A at hD hAN ⊢
  have hA : ∀ q : Nat, s.heap.size ≤ q → A q := fun q h => by rw [← hAe]; exact Or.inr h
  have hS : va_S A s.heap s.heap [] := va_S.rf
  have hP : va_P (dC, dI) x_cl [(h0, .inr (6, fs))] s.heap := hP
  have hl := lv_entry ([.ref h0]) (n := 2) (Nat.le_of_ble_eq_true rfl)
  rw [lg_entry_eq]
  generalize (lg_sl ([.ref h0]) ++ List.replicate (2 - (lg_sl ([.ref h0])).length) Slot.unset).toArray = ls at hl ⊢
  have hl : lv_has ls 2 [(0, .ref h0)] := hl
  have hH0 : s.heap.size ≤ s.heap.size := Nat.le_refl _
  refine lv_aload_n hx hb d_Mo_take_0 rfl (lv_at hl 0 rfl) ?_
  refine lv_iconst (v := 0) hx hb d_Mo_take_1 (by decide) ?_
  refine va_put (D := (dC, dI)) (ci := 6) (v := .int 0) (ty := .int) (C := "ChannelMachineModel") (T := F_Mo) (N := 45) hx hb hts i_Mo t_Mo t_Mo_ok n_Mo hown hK hP hD hS 0 rfl rfl 33 (by decide) (hts _ k_1000) (fun _ h9 => h9) rfl (by decide +kernel) rfl rfl (by first | omega | (simp; omega)) d_Mo_take_2 (fun H locs hP hD hS => ?_)
  have hP : va_P (dC, dI) x_cl [(h0, .inr (6, (fs.set 33 (.int 0))))] H := hP
  have hD : va_D A [(h0, .inr (6, (fs.set 33 (.int 0))))] := hD
  refine lv_aload_n hx hb d_Mo_take_5 rfl (lv_at hl 0 rfl) ?_
  refine va_get (D := (dC, dI)) (ci := 6) (v := .int 0) (C := "ChannelMachineModel") (T := F_Mo) (N := 45) hx hb hts i_Mo hown hK hP 0 rfl rfl 43 (by decide) (hts _ k_1010) (fun _ h9 => h9) (x_gs (by decide) g_boxed) d_Mo_take_6 ?_
  refine lv_if_ne (tgt := 18) hx hb d_Mo_take_9 (by decide) (fun c1 => absurd rfl c1) (fun _ => ?_)
  refine lv_aload_n hx hb d_Mo_take_12 rfl (lv_at hl 0 rfl) ?_
  refine lv_iconst (v := 1) hx hb d_Mo_take_13 (by decide) ?_
  have hPc := hP.sub (ws' := [(h0, .inr (6, (fs.set 33 (.int 0))))]) [0] rfl
  have hDc := hD.sub (ws' := [(h0, .inr (6, (fs.set 33 (.int 0))))]) [0] (by decide) rfl
  have hFc := va_free (wc := [(h0, .inr (6, (fs.set 33 (.int 0))))]) hD hS hA [0] rfl
  refine va_calli (va_runV (As := [.int 1]) (rest := []) ⟨hx, hb, hml, hown, hts⟩ (c_Mo_fail l dC dI ar N0 z h0 (fs.set 33 (.int 0)) (1) H.size (by first | exact hfs | (simp; exact hfs))) (cwV 1 hts (x_goodV k_1120 k_1122 kp_49 k_9 k_1123) rfl rfl rfl (by decide +kernel) ⟨Nat.le_of_ble_eq_true rfl, Nat.le_of_ble_eq_true rfl⟩) ⟨x_blind, va_recv hK hPc (ci := 6) (q0 := 0) rfl rfl, fun U hU9 hW => x_pre hU9 hW hPc hDc hU hZ hS hAN hN0⟩ rfl rfl hl.1 rfl (lv_room (Nat.le_of_ble_eq_true rfl)) d_Mo_take_14 ⟨Nat.le_of_ble_eq_true rfl, Nat.le_of_ble_eq_true rfl⟩) hS (fun q _ h => hFc q h) hFc (fun r2 u3 t H1 locs ht hvm hw hB hz1 hk1 hS => ?_)
  obtain ⟨hP1, hD1⟩ := hB
  rw [ht] at hP1
  obtain ⟨hP, hD⟩ := va_join (wr := []) (w1 := [(h0, .inr (6, ((fs.set 33 (.int 0)).set 33 (.int u3))))]) hP hD [0] [] rfl rfl (by decide) (by decide) hk1 hFc hP1 hD1
  generalize H1 = H at hP hS ⊢
  have hP : va_P (dC, dI) x_cl [(h0, .inr (6, ((fs.set 33 (.int 0)).set 33 (.int u3))))] H := hP
  have hD : va_D A [(h0, .inr (6, ((fs.set 33 (.int 0)).set 33 (.int u3))))] := hD
  refine W.widen (k := 0) (n := 0) (Nat.le_of_ble_eq_true rfl) (Nat.le_of_ble_eq_true rfl) ?_
  obtain ⟨rfl, rfl⟩ := hw
  refine W.widen (k := 0) (n := 0) (Nat.le_of_ble_eq_true rfl) (Nat.le_of_ble_eq_true rfl) ?_
  exact W.iret (v := 0) hx hb hr (fun t ht hW => ⟨⟨0, 1, rfl, rfl, ⟨((fs.set 33 (.int 0)).set 33 (.int 1)), by rw [ht]; exact hP.sub (ws' := [(h0, .inr (6, ((fs.set 33 (.int 0)).set 33 (.int 1))))]) [0] rfl, hD.sub (ws' := [(h0, .inr (6, ((fs.set 33 (.int 0)).set 33 (.int 1))))]) [0] (by decide) rfl, (x_ge (by first | omega | (simp; omega)))⟩⟩, hS.F ht⟩) hS.2.2 d_Mo_take_17
set_option maxHeartbeats 4000000 in
set_option maxRecDepth 100000 in
theorem c_Mo_give (l : Launch) (dC : Nat → ClassId) (dI : Nat → Nat → Nat) (ar : Nat → ClassId) (N0 : Nat) (z : Nat → Nat) (h0 : Nat) (fs : List Value) (x : Int32) (sz : Nat) (hfs : fs.length = 45) (g_status : fs[9]? = some (.int 0)) : Met l ({ cls := "ChannelMachineModel", name := "give", desc := "(I)I" } : Jvm.MethodName) ((Jvm.Cond.code ({ cls := "ChannelMachineModel", name := "give", desc := "(I)I" } : Jvm.MethodName) prog_12_method_43_code (2 : Nat) (Option.some Jvm.ClassFile.FieldType.int)) :: x_T) ({ frames := 1, cells := 0, slots := 0, locals := 21 }) (x_Pc (dC, dI) ar N0 z [(h0, .inr (6, fs))] sz [.ref h0, .int x]) (va_Qi (fun (r : Int32) (u : Int32) => u = 1) (fun u t => ∃ fz : List Value, va_P (dC, dI) x_cl [(h0, .inr (6, fz))] t.heap ∧ va_D (va_A [(h0, .inr (6, fs))] sz) [(h0, .inr (6, fz))] ∧ fz[33]? = some (.int u)) (va_A [(h0, .inr (6, fs))] sz)) 0 0 (va_A [(h0, .inr (6, fs))] sz) := by
  refine Met.ofW (cc := prog_12_method_43_code) (maxL := 2) (ret := (some .int)) (by decide) rfl ?_
  intro p e s m args below meth c s₁ B hml hv
  obtain ⟨rfl, hsz, hN0, hP, hU, hZ, hD0⟩ := hv
  have hK := hU.1
  have hx := B.exec
  have hb := B.bytes
  have hr := B.returns
  have hts : ∀ w ∈ x_T, w.before ([.ref h0, .int x] : List Value).toArray s = true := fun w h => atoms_spec (ws := (Jvm.Cond.code ({ cls := "ChannelMachineModel", name := "give", desc := "(I)I" } : Jvm.MethodName) prog_12_method_43_code (2 : Nat) (Option.some Jvm.ClassFile.FieldType.int)) :: x_T) B.pre w (List.mem_cons_of_mem _ h)
  have hown : s.vm.findClass "ChannelMachineModel" = some m.cls := findClass_of_methodNamed B.named
  have hlocks := B.notSynchronized
  subst hsz
  have hD := hD0.self (sz := s.heap.size)
  have hAN := x_AN hD0 hN0
  generalize hAe : va_A [(h0, .inr (6, fs))] s.heap.size = A at hD hAN ⊢
  have hA : ∀ q : Nat, s.heap.size ≤ q → A q := fun q h => by rw [← hAe]; exact Or.inr h
  have hS : va_S A s.heap s.heap [] := va_S.rf
  have hP : va_P (dC, dI) x_cl [(h0, .inr (6, fs))] s.heap := hP
  have hl := lv_entry ([.ref h0, .int x]) (n := 2) (Nat.le_of_ble_eq_true rfl)
  rw [lg_entry_eq]
  generalize (lg_sl ([.ref h0, .int x]) ++ List.replicate (2 - (lg_sl ([.ref h0, .int x])).length) Slot.unset).toArray = ls at hl ⊢
  have hl : lv_has ls 2 [(0, .ref h0), (1, .int x)] := hl
  have hH0 : s.heap.size ≤ s.heap.size := Nat.le_refl _
  refine lv_aload_n hx hb d_Mo_give_0 rfl (lv_at hl 0 rfl) ?_
  refine lv_iconst (v := 0) hx hb d_Mo_give_1 (by decide) ?_
  refine va_put (D := (dC, dI)) (ci := 6) (v := .int 0) (ty := .int) (C := "ChannelMachineModel") (T := F_Mo) (N := 45) hx hb hts i_Mo t_Mo t_Mo_ok n_Mo hown hK hP hD hS 0 rfl rfl 33 (by decide) (hts _ k_1000) (fun _ h9 => h9) rfl (by decide +kernel) rfl rfl (by first | omega | (simp; omega)) d_Mo_give_2 (fun H locs hP hD hS => ?_)
  have hP : va_P (dC, dI) x_cl [(h0, .inr (6, (fs.set 33 (.int 0))))] H := hP
  have hD : va_D A [(h0, .inr (6, (fs.set 33 (.int 0))))] := hD
  refine lv_aload_n hx hb d_Mo_give_5 rfl (lv_at hl 0 rfl) ?_
  refine va_get (D := (dC, dI)) (ci := 6) (v := .int 0) (C := "ChannelMachineModel") (T := F_Mo) (N := 45) hx hb hts i_Mo hown hK hP 0 rfl rfl 9 (by decide) (hts _ k_976) (fun _ h9 => h9) (x_gs (by decide) g_status) d_Mo_give_6 ?_
  refine lv_iconst (v := 1) hx hb d_Mo_give_9 (by decide) ?_
  refine lv_icmp_ne (tgt := 22) hx hb d_Mo_give_10 (by decide) (fun _ => ?_) (fun c1 => absurd c1 (by decide))
  refine lv_aload_n hx hb d_Mo_give_22 rfl (lv_at hl 0 rfl) ?_
  refine lv_iconst (v := 1) hx hb d_Mo_give_23 (by decide) ?_
  have hPc := hP.sub (ws' := [(h0, .inr (6, (fs.set 33 (.int 0))))]) [0] rfl
  have hDc := hD.sub (ws' := [(h0, .inr (6, (fs.set 33 (.int 0))))]) [0] (by decide) rfl
  have hFc := va_free (wc := [(h0, .inr (6, (fs.set 33 (.int 0))))]) hD hS hA [0] rfl
  refine va_calli (va_runV (As := [.int 1]) (rest := []) ⟨hx, hb, hml, hown, hts⟩ (c_Mo_fail l dC dI ar N0 z h0 (fs.set 33 (.int 0)) (1) H.size (by first | exact hfs | (simp; exact hfs))) (cwV 1 hts (x_goodV k_1120 k_1122 kp_49 k_9 k_1123) rfl rfl rfl (by decide +kernel) ⟨Nat.le_of_ble_eq_true rfl, Nat.le_of_ble_eq_true rfl⟩) ⟨x_blind, va_recv hK hPc (ci := 6) (q0 := 0) rfl rfl, fun U hU9 hW => x_pre hU9 hW hPc hDc hU hZ hS hAN hN0⟩ rfl rfl hl.1 rfl (lv_room (Nat.le_of_ble_eq_true rfl)) d_Mo_give_24 ⟨Nat.le_of_ble_eq_true rfl, Nat.le_of_ble_eq_true rfl⟩) hS (fun q _ h => hFc q h) hFc (fun r2 u3 t H1 locs ht hvm hw hB hz1 hk1 hS => ?_)
  obtain ⟨hP1, hD1⟩ := hB
  rw [ht] at hP1
  obtain ⟨hP, hD⟩ := va_join (wr := []) (w1 := [(h0, .inr (6, ((fs.set 33 (.int 0)).set 33 (.int u3))))]) hP hD [0] [] rfl rfl (by decide) (by decide) hk1 hFc hP1 hD1
  generalize H1 = H at hP hS ⊢
  have hP : va_P (dC, dI) x_cl [(h0, .inr (6, ((fs.set 33 (.int 0)).set 33 (.int u3))))] H := hP
  have hD : va_D A [(h0, .inr (6, ((fs.set 33 (.int 0)).set 33 (.int u3))))] := hD
  refine W.widen (k := 0) (n := 0) (Nat.le_of_ble_eq_true rfl) (Nat.le_of_ble_eq_true rfl) ?_
  obtain ⟨rfl, rfl⟩ := hw
  refine W.widen (k := 0) (n := 0) (Nat.le_of_ble_eq_true rfl) (Nat.le_of_ble_eq_true rfl) ?_
  exact W.iret (v := 0) hx hb hr (fun t ht hW => ⟨⟨0, 1, rfl, rfl, ⟨((fs.set 33 (.int 0)).set 33 (.int 1)), by rw [ht]; exact hP.sub (ws' := [(h0, .inr (6, ((fs.set 33 (.int 0)).set 33 (.int 1))))]) [0] rfl, hD.sub (ws' := [(h0, .inr (6, ((fs.set 33 (.int 0)).set 33 (.int 1))))]) [0] (by decide) rfl, (x_ge (by first | omega | (simp; omega)))⟩⟩, hS.F ht⟩) hS.2.2 d_Mo_give_27
set_option maxHeartbeats 4000000 in
set_option maxRecDepth 100000 in
theorem c_Mo_run (l : Launch) (dC : Nat → ClassId) (dI : Nat → Nat → Nat) (ar : Nat → ClassId) (N0 : Nat) (z : Nat → Nat) (h0 : Nat) (fs : List Value) (n : Int32) (sz : Nat) (hfs : fs.length = 45) (g_status : fs[9]? = some (.int 0)) : Met l ({ cls := "ChannelMachineModel", name := "run", desc := "(I)I" } : Jvm.MethodName) ((Jvm.Cond.code ({ cls := "ChannelMachineModel", name := "run", desc := "(I)I" } : Jvm.MethodName) prog_12_method_42_code (4 : Nat) (Option.some Jvm.ClassFile.FieldType.int)) :: x_T) ({ frames := 1, cells := 0, slots := 0, locals := 22 }) (x_Pc (dC, dI) ar N0 z [(h0, .inr (6, fs))] sz [.ref h0, .int n]) (va_Qi (fun (r : Int32) (u : Int32) => ((¬ n < 1 ∧ ¬ 200 < n) ∧ u = 2) ∨ ((n < 1 ∨ 200 < n) ∧ u = 1)) (fun u t => ∃ fz : List Value, va_P (dC, dI) x_cl [(h0, .inr (6, fz))] t.heap ∧ va_D (va_A [(h0, .inr (6, fs))] sz) [(h0, .inr (6, fz))] ∧ fz[33]? = some (.int u)) (va_A [(h0, .inr (6, fs))] sz)) 0 0 (va_A [(h0, .inr (6, fs))] sz) := by
  refine Met.ofW (cc := prog_12_method_42_code) (maxL := 4) (ret := (some .int)) (by decide) rfl ?_
  intro p e s m args below meth c s₁ B hml hv
  obtain ⟨rfl, hsz, hN0, hP, hU, hZ, hD0⟩ := hv
  have hK := hU.1
  have hx := B.exec
  have hb := B.bytes
  have hr := B.returns
  have hts : ∀ w ∈ x_T, w.before ([.ref h0, .int n] : List Value).toArray s = true := fun w h => atoms_spec (ws := (Jvm.Cond.code ({ cls := "ChannelMachineModel", name := "run", desc := "(I)I" } : Jvm.MethodName) prog_12_method_42_code (4 : Nat) (Option.some Jvm.ClassFile.FieldType.int)) :: x_T) B.pre w (List.mem_cons_of_mem _ h)
  have hown : s.vm.findClass "ChannelMachineModel" = some m.cls := findClass_of_methodNamed B.named
  have hlocks := B.notSynchronized
  subst hsz
  have hD := hD0.self (sz := s.heap.size)
  have hAN := x_AN hD0 hN0
  generalize hAe : va_A [(h0, .inr (6, fs))] s.heap.size = A at hD hAN ⊢
  have hA : ∀ q : Nat, s.heap.size ≤ q → A q := fun q h => by rw [← hAe]; exact Or.inr h
  have hS : va_S A s.heap s.heap [] := va_S.rf
  have hP : va_P (dC, dI) x_cl [(h0, .inr (6, fs))] s.heap := hP
  have hl := lv_entry ([.ref h0, .int n]) (n := 4) (Nat.le_of_ble_eq_true rfl)
  rw [lg_entry_eq]
  generalize (lg_sl ([.ref h0, .int n]) ++ List.replicate (4 - (lg_sl ([.ref h0, .int n])).length) Slot.unset).toArray = ls at hl ⊢
  have hl : lv_has ls 4 [(0, .ref h0), (1, .int n)] := hl
  have hH0 : s.heap.size ≤ s.heap.size := Nat.le_refl _
  refine lv_aload_n hx hb d_Mo_run_0 rfl (lv_at hl 0 rfl) ?_
  refine lv_iload_n hx hb d_Mo_run_1 rfl (lv_at hl 1 rfl) ?_
  refine lv_iconst (v := 1) hx hb d_Mo_run_2 (by decide) ?_
  refine lv_sipush (v := 200) hx hb d_Mo_run_3 (by decide) ?_
  have hPc := hP.sub (ws' := []) [] rfl
  have hDc := hD.sub (ws' := []) [] (by decide) rfl
  have hFc := va_free (wc := []) hD hS hA [] rfl
  refine va_calli (va_runS (As := [.int n, .int 1, .int 200]) (rest := [.ref h0]) ⟨hx, hb, hml, hown, hts⟩ (c_Mo_in l dC dI ar N0 z (n) 1 200 s.heap.size) (cwS 3 hts (x_goodS k_1113 k_1114 k_9 k_1115) rfl rfl rfl (by decide +kernel) ⟨Nat.le_of_ble_eq_true rfl, Nat.le_of_ble_eq_true rfl⟩) ⟨x_blind, fun U hU9 hW => x_pre hU9 hW hPc hDc hU hZ hS hAN hN0⟩ rfl rfl hl.1 rfl (lv_room (Nat.le_of_ble_eq_true rfl)) d_Mo_run_6 ⟨Nat.le_of_ble_eq_true rfl, Nat.le_of_ble_eq_true rfl⟩) hS (fun q _ h => hFc q h) hFc (fun r1 u2 t H1 locs ht hvm hw hB hz1 hk1 hS => ?_)
  obtain ⟨hP1, hD1⟩ := hB
  rw [ht] at hP1
  obtain ⟨hP, hD⟩ := va_join (wr := [(h0, .inr (6, fs))]) (w1 := []) hP hD [] [0] rfl rfl (by decide) (by decide) hk1 hFc hP1 hD1
  generalize H1 = H at hP hS ⊢
  have hP : va_P (dC, dI) x_cl [(h0, .inr (6, fs))] H := hP
  have hD : va_D A [(h0, .inr (6, fs))] := hD
  refine W.widen (k := 0) (n := 0) (Nat.le_of_ble_eq_true rfl) (Nat.le_of_ble_eq_true rfl) ?_
  rcases hw with ⟨i3, i3', rfl⟩ | ⟨i3, rfl⟩
  · have i3 := i3
    have hPc := hP.sub (ws' := [(h0, .inr (6, fs))]) [0] rfl
    have hDc := hD.sub (ws' := [(h0, .inr (6, fs))]) [0] (by decide) rfl
    have hFc := va_free (wc := [(h0, .inr (6, fs))]) hD hS hA [0] rfl
    refine va_calli (va_runV (As := [.int 1]) (rest := []) ⟨hx, hb, hml, hown, hts⟩ (c_Mo_bad l dC dI ar N0 z h0 fs (1) H.size (by first | exact hfs | (simp; exact hfs))) (cwV 1 hts (x_goodV k_1116 k_1118 kp_48 k_9 k_1119) rfl rfl rfl (by decide +kernel) ⟨Nat.le_of_ble_eq_true rfl, Nat.le_of_ble_eq_true rfl⟩) ⟨x_blind, va_recv hK hPc (ci := 6) (q0 := 0) rfl rfl, fun U hU9 hW => x_pre hU9 hW hPc hDc hU hZ hS hAN hN0⟩ rfl rfl hl.1 rfl (lv_room (Nat.le_of_ble_eq_true rfl)) d_Mo_run_9 ⟨Nat.le_of_ble_eq_true rfl, Nat.le_of_ble_eq_true rfl⟩) hS (fun q _ h => hFc q h) hFc (fun r4 u5 t H1 locs ht hvm hw hB hz1 hk1 hS => ?_)
    obtain ⟨hP1, hD1⟩ := hB
    rw [ht] at hP1
    obtain ⟨hP, hD⟩ := va_join (wr := []) (w1 := [(h0, .inr (6, (fs.set 33 (.int u5))))]) hP hD [0] [] rfl rfl (by decide) (by decide) hk1 hFc hP1 hD1
    generalize H1 = H at hP hS ⊢
    have hP : va_P (dC, dI) x_cl [(h0, .inr (6, (fs.set 33 (.int u5))))] H := hP
    have hD : va_D A [(h0, .inr (6, (fs.set 33 (.int u5))))] := hD
    refine W.widen (k := 0) (n := 0) (Nat.le_of_ble_eq_true rfl) (Nat.le_of_ble_eq_true rfl) ?_
    rcases hw with ⟨h9, rfl, rfl⟩ | ⟨h9, rfl, rfl⟩
    · exact absurd h9 (by decide)
    · refine lv_if_eq (tgt := 17) hx hb d_Mo_run_12 (by decide) (fun _ => ?_) (fun c6 => absurd (by decide) c6)
      refine lv_aload_n hx hb d_Mo_run_17 rfl (lv_at hl 0 rfl) ?_
      refine va_get (D := (dC, dI)) (ci := 6) (v := .int 0) (C := "ChannelMachineModel") (T := F_Mo) (N := 45) hx hb hts i_Mo hown hK hP 0 rfl rfl 9 (by decide) (hts _ k_976) (fun _ h9 => h9) (x_gs (by decide) g_status) d_Mo_run_18 ?_
      refine lv_iconst (v := 1) hx hb d_Mo_run_21 (by decide) ?_
      refine lv_icmp_eq (tgt := 31) hx hb d_Mo_run_22 (by decide) (fun c7 => absurd c7 (by decide)) (fun _ => ?_)
      refine lv_aload_n hx hb d_Mo_run_25 rfl (lv_at hl 0 rfl) ?_
      refine lv_iconst (v := 2) hx hb d_Mo_run_26 (by decide) ?_
      have hPc := hP.sub (ws' := [(h0, .inr (6, (fs.set 33 (.int 0))))]) [0] rfl
      have hDc := hD.sub (ws' := [(h0, .inr (6, (fs.set 33 (.int 0))))]) [0] (by decide) rfl
      have hFc := va_free (wc := [(h0, .inr (6, (fs.set 33 (.int 0))))]) hD hS hA [0] rfl
      refine va_calli (va_runV (As := [.int 2]) (rest := []) ⟨hx, hb, hml, hown, hts⟩ (c_Mo_fail l dC dI ar N0 z h0 (fs.set 33 (.int 0)) (2) H.size (by first | exact hfs | (simp; exact hfs))) (cwV 1 hts (x_goodV k_1120 k_1122 kp_49 k_9 k_1123) rfl rfl rfl (by decide +kernel) ⟨Nat.le_of_ble_eq_true rfl, Nat.le_of_ble_eq_true rfl⟩) ⟨x_blind, va_recv hK hPc (ci := 6) (q0 := 0) rfl rfl, fun U hU9 hW => x_pre hU9 hW hPc hDc hU hZ hS hAN hN0⟩ rfl rfl hl.1 rfl (lv_room (Nat.le_of_ble_eq_true rfl)) d_Mo_run_27 ⟨Nat.le_of_ble_eq_true rfl, Nat.le_of_ble_eq_true rfl⟩) hS (fun q _ h => hFc q h) hFc (fun r8 u9 t H1 locs ht hvm hw hB hz1 hk1 hS => ?_)
      obtain ⟨hP1, hD1⟩ := hB
      rw [ht] at hP1
      obtain ⟨hP, hD⟩ := va_join (wr := []) (w1 := [(h0, .inr (6, ((fs.set 33 (.int 0)).set 33 (.int u9))))]) hP hD [0] [] rfl rfl (by decide) (by decide) hk1 hFc hP1 hD1
      generalize H1 = H at hP hS ⊢
      have hP : va_P (dC, dI) x_cl [(h0, .inr (6, ((fs.set 33 (.int 0)).set 33 (.int u9))))] H := hP
      have hD : va_D A [(h0, .inr (6, ((fs.set 33 (.int 0)).set 33 (.int u9))))] := hD
      refine W.widen (k := 0) (n := 0) (Nat.le_of_ble_eq_true rfl) (Nat.le_of_ble_eq_true rfl) ?_
      obtain ⟨rfl, rfl⟩ := hw
      refine W.widen (k := 0) (n := 0) (Nat.le_of_ble_eq_true rfl) (Nat.le_of_ble_eq_true rfl) ?_
      exact W.iret (v := 0) hx hb hr (fun t ht hW => ⟨⟨0, 2, rfl, Or.inl ⟨⟨i3, i3'⟩, rfl⟩, ⟨((fs.set 33 (.int 0)).set 33 (.int 2)), by rw [ht]; exact hP.sub (ws' := [(h0, .inr (6, ((fs.set 33 (.int 0)).set 33 (.int 2))))]) [0] rfl, hD.sub (ws' := [(h0, .inr (6, ((fs.set 33 (.int 0)).set 33 (.int 2))))]) [0] (by decide) rfl, (x_ge (by first | omega | (simp; omega)))⟩⟩, hS.F ht⟩) hS.2.2 d_Mo_run_30
  · have i3 := i3
    have hPc := hP.sub (ws' := [(h0, .inr (6, fs))]) [0] rfl
    have hDc := hD.sub (ws' := [(h0, .inr (6, fs))]) [0] (by decide) rfl
    have hFc := va_free (wc := [(h0, .inr (6, fs))]) hD hS hA [0] rfl
    refine va_calli (va_runV (As := [.int 0]) (rest := []) ⟨hx, hb, hml, hown, hts⟩ (c_Mo_bad l dC dI ar N0 z h0 fs (0) H.size (by first | exact hfs | (simp; exact hfs))) (cwV 1 hts (x_goodV k_1116 k_1118 kp_48 k_9 k_1119) rfl rfl rfl (by decide +kernel) ⟨Nat.le_of_ble_eq_true rfl, Nat.le_of_ble_eq_true rfl⟩) ⟨x_blind, va_recv hK hPc (ci := 6) (q0 := 0) rfl rfl, fun U hU9 hW => x_pre hU9 hW hPc hDc hU hZ hS hAN hN0⟩ rfl rfl hl.1 rfl (lv_room (Nat.le_of_ble_eq_true rfl)) d_Mo_run_9 ⟨Nat.le_of_ble_eq_true rfl, Nat.le_of_ble_eq_true rfl⟩) hS (fun q _ h => hFc q h) hFc (fun r10 u11 t H1 locs ht hvm hw hB hz1 hk1 hS => ?_)
    obtain ⟨hP1, hD1⟩ := hB
    rw [ht] at hP1
    obtain ⟨hP, hD⟩ := va_join (wr := []) (w1 := [(h0, .inr (6, (fs.set 33 (.int u11))))]) hP hD [0] [] rfl rfl (by decide) (by decide) hk1 hFc hP1 hD1
    generalize H1 = H at hP hS ⊢
    have hP : va_P (dC, dI) x_cl [(h0, .inr (6, (fs.set 33 (.int u11))))] H := hP
    have hD : va_D A [(h0, .inr (6, (fs.set 33 (.int u11))))] := hD
    refine W.widen (k := 0) (n := 0) (Nat.le_of_ble_eq_true rfl) (Nat.le_of_ble_eq_true rfl) ?_
    rcases hw with ⟨h9, rfl, rfl⟩ | ⟨h9, rfl, rfl⟩
    · refine lv_if_eq (tgt := 17) hx hb d_Mo_run_12 (by decide) (fun c12 => absurd c12 (by decide)) (fun _ => ?_)
      refine lv_iconst (v := 0) hx hb d_Mo_run_15 (by decide) ?_
      refine W.widen (k := 0) (n := 0) (Nat.le_of_ble_eq_true rfl) (Nat.le_of_ble_eq_true rfl) ?_
      exact W.iret (v := 0) hx hb hr (fun t ht hW => ⟨⟨0, 1, rfl, Or.inr ⟨i3, rfl⟩, ⟨(fs.set 33 (.int 1)), by rw [ht]; exact hP.sub (ws' := [(h0, .inr (6, (fs.set 33 (.int 1))))]) [0] rfl, hD.sub (ws' := [(h0, .inr (6, (fs.set 33 (.int 1))))]) [0] (by decide) rfl, (x_ge (by first | omega | (simp; omega)))⟩⟩, hS.F ht⟩) hS.2.2 d_Mo_run_16
    · exact absurd rfl h9
set_option maxHeartbeats 4000000 in
set_option maxRecDepth 100000 in
theorem c_Mo_thrown (l : Launch) (dC : Nat → ClassId) (dI : Nat → Nat → Nat) (ar : Nat → ClassId) (N0 : Nat) (z : Nat → Nat) (h0 : Nat) (fs : List Value) (k : Int32) (sz : Nat) (hfs : fs[33]? = some (.int k)) : Met l ({ cls := "ChannelMachineModel", name := "thrown", desc := "()I" } : Jvm.MethodName) ((Jvm.Cond.code ({ cls := "ChannelMachineModel", name := "thrown", desc := "()I" } : Jvm.MethodName) prog_12_method_2_code (1 : Nat) (Option.some Jvm.ClassFile.FieldType.int)) :: x_T) ({ frames := 0, cells := 0, slots := 0, locals := 0 }) (x_Pc (dC, dI) ar N0 z [(h0, .inr (6, fs))] sz [.ref h0]) (va_Qi (fun (r : Int32) (u : Unit) => r = k) (fun u t => va_P (dC, dI) x_cl [(h0, .inr (6, fs))] t.heap ∧ va_D (va_A [(h0, .inr (6, fs))] sz) [(h0, .inr (6, fs))]) (va_A [(h0, .inr (6, fs))] sz)) 0 0 (va_A [(h0, .inr (6, fs))] sz) := by
  refine Met.ofW (cc := prog_12_method_2_code) (maxL := 1) (ret := (some .int)) (by decide) rfl ?_
  intro p e s m args below meth c s₁ B hml hv
  obtain ⟨rfl, hsz, hN0, hP, hU, hZ, hD0⟩ := hv
  have hK := hU.1
  have hx := B.exec
  have hb := B.bytes
  have hr := B.returns
  have hts : ∀ w ∈ x_T, w.before ([.ref h0] : List Value).toArray s = true := fun w h => atoms_spec (ws := (Jvm.Cond.code ({ cls := "ChannelMachineModel", name := "thrown", desc := "()I" } : Jvm.MethodName) prog_12_method_2_code (1 : Nat) (Option.some Jvm.ClassFile.FieldType.int)) :: x_T) B.pre w (List.mem_cons_of_mem _ h)
  have hown : s.vm.findClass "ChannelMachineModel" = some m.cls := findClass_of_methodNamed B.named
  have hlocks := B.notSynchronized
  subst hsz
  have hD := hD0.self (sz := s.heap.size)
  have hAN := x_AN hD0 hN0
  generalize hAe : va_A [(h0, .inr (6, fs))] s.heap.size = A at hD hAN ⊢
  have hA : ∀ q : Nat, s.heap.size ≤ q → A q := fun q h => by rw [← hAe]; exact Or.inr h
  have hS : va_S A s.heap s.heap [] := va_S.rf
  have hP : va_P (dC, dI) x_cl [(h0, .inr (6, fs))] s.heap := hP
  have hl := lv_entry ([.ref h0]) (n := 1) (Nat.le_of_ble_eq_true rfl)
  rw [lg_entry_eq]
  generalize (lg_sl ([.ref h0]) ++ List.replicate (1 - (lg_sl ([.ref h0])).length) Slot.unset).toArray = ls at hl ⊢
  have hl : lv_has ls 1 [(0, .ref h0)] := hl
  have hH0 : s.heap.size ≤ s.heap.size := Nat.le_refl _
  refine lv_aload_n hx hb d_Mo_thrown_0 rfl (lv_at hl 0 rfl) ?_
  refine va_get (D := (dC, dI)) (ci := 6) (v := .int k) (C := "ChannelMachineModel") (T := F_Mo) (N := 45) hx hb hts i_Mo hown hK hP 0 rfl rfl 33 (by decide) (hts _ k_1000) (fun _ h9 => h9) hfs d_Mo_thrown_1 ?_
  refine W.widen (k := 0) (n := 0) (Nat.le_of_ble_eq_true rfl) (Nat.le_of_ble_eq_true rfl) ?_
  exact W.iret (v := k) hx hb hr (fun t ht hW => ⟨⟨k, (), rfl, rfl, ⟨by rw [ht]; exact hP, hD⟩⟩, hS.F ht⟩) hS.2.2 d_Mo_thrown_4
set_option maxHeartbeats 4000000 in
set_option maxRecDepth 100000 in
theorem c_List_size (l : Launch) (dC : Nat → ClassId) (dI : Nat → Nat → Nat) (ar : Nat → ClassId) (N0 : Nat) (z : Nat → Nat) (h0 a : Nat) (sz : Nat) : Met l ({ cls := "java/util/ArrayList", name := "size", desc := "()I" } : Jvm.MethodName) ((Jvm.Cond.code ({ cls := "java/util/ArrayList", name := "size", desc := "()I" } : Jvm.MethodName) prog_28_method_8_code (1 : Nat) (Option.some Jvm.ClassFile.FieldType.int)) :: x_T) ({ frames := 0, cells := 0, slots := 0, locals := 0 }) (x_Pc (dC, dI) ar N0 z [(h0, .inr (0, [.ref a, .int 0, .int 0]))] sz [.ref h0]) (va_Qi (fun (r : Int32) (u : Unit) => r = 0) (fun u t => va_P (dC, dI) x_cl [(h0, .inr (0, [.ref a, .int 0, .int 0]))] t.heap ∧ va_D (va_A [(h0, .inr (0, [.ref a, .int 0, .int 0]))] sz) [(h0, .inr (0, [.ref a, .int 0, .int 0]))]) (va_A [(h0, .inr (0, [.ref a, .int 0, .int 0]))] sz)) 0 0 (va_A [(h0, .inr (0, [.ref a, .int 0, .int 0]))] sz) := by
  refine Met.ofW (cc := prog_28_method_8_code) (maxL := 1) (ret := (some .int)) (by decide) rfl ?_
  intro p e s m args below meth c s₁ B hml hv
  obtain ⟨rfl, hsz, hN0, hP, hU, hZ, hD0⟩ := hv
  have hK := hU.1
  have hx := B.exec
  have hb := B.bytes
  have hr := B.returns
  have hts : ∀ w ∈ x_T, w.before ([.ref h0] : List Value).toArray s = true := fun w h => atoms_spec (ws := (Jvm.Cond.code ({ cls := "java/util/ArrayList", name := "size", desc := "()I" } : Jvm.MethodName) prog_28_method_8_code (1 : Nat) (Option.some Jvm.ClassFile.FieldType.int)) :: x_T) B.pre w (List.mem_cons_of_mem _ h)
  have hown : s.vm.findClass "java/util/ArrayList" = some m.cls := findClass_of_methodNamed B.named
  have hlocks := B.notSynchronized
  subst hsz
  have hD := hD0.self (sz := s.heap.size)
  have hAN := x_AN hD0 hN0
  generalize hAe : va_A [(h0, .inr (0, [.ref a, .int 0, .int 0]))] s.heap.size = A at hD hAN ⊢
  have hA : ∀ q : Nat, s.heap.size ≤ q → A q := fun q h => by rw [← hAe]; exact Or.inr h
  have hS : va_S A s.heap s.heap [] := va_S.rf
  have hP : va_P (dC, dI) x_cl [(h0, .inr (0, [.ref a, .int 0, .int 0]))] s.heap := hP
  have hl := lv_entry ([.ref h0]) (n := 1) (Nat.le_of_ble_eq_true rfl)
  rw [lg_entry_eq]
  generalize (lg_sl ([.ref h0]) ++ List.replicate (1 - (lg_sl ([.ref h0])).length) Slot.unset).toArray = ls at hl ⊢
  have hl : lv_has ls 1 [(0, .ref h0)] := hl
  have hH0 : s.heap.size ≤ s.heap.size := Nat.le_refl _
  refine lv_aload_n hx hb d_ArrayList_size_0 rfl (lv_at hl 0 rfl) ?_
  refine va_get (D := (dC, dI)) (ci := 0) (v := .int 0) (C := "java/util/ArrayList") (T := F_List) (N := 3) hx hb hts i_List hown hK hP 0 rfl rfl 1 (by decide) (hts _ k_115) (fun _ h9 => h9) rfl d_ArrayList_size_1 ?_
  refine W.widen (k := 0) (n := 0) (Nat.le_of_ble_eq_true rfl) (Nat.le_of_ble_eq_true rfl) ?_
  exact W.iret (v := 0) hx hb hr (fun t ht hW => ⟨⟨0, (), rfl, rfl, ⟨by rw [ht]; exact hP, hD⟩⟩, hS.F ht⟩) hS.2.2 d_ArrayList_size_4
set_option maxHeartbeats 4000000 in
set_option maxRecDepth 100000 in
theorem c_CM_count (l : Launch) (dC : Nat → ClassId) (dI : Nat → Nat → Nat) (ar : Nat → ClassId) (N0 : Nat) (z : Nat → Nat) (h0 rd mc va ch gi bo qu sl sk : Nat) (gv bv qa sa : Nat) (v : Int32) (sz : Nat) : Met l ({ cls := "ChannelMachine", name := "count", desc := "(I)I" } : Jvm.MethodName) ((Jvm.Cond.code ({ cls := "ChannelMachine", name := "count", desc := "(I)I" } : Jvm.MethodName) prog_1_method_11_code (2 : Nat) (Option.some Jvm.ClassFile.FieldType.int)) :: x_T) ({ frames := 1, cells := 0, slots := 0, locals := 20 }) (x_Pc (dC, dI) ar N0 z [(h0, .inr (5, [.ref rd, .ref mc, .int (-1)])), (mc, .inr (2, [.ref va, .ref ch, .ref gi, .ref bo, .ref qu, .ref sl, .ref sk, .int 0, .int 0, .int 0, .long 0])), (gi, .inr (4, [.ref gv, .int 0])), (bo, .inr (4, [.ref bv, .int 0])), (qu, .inr (0, [.ref qa, .int 0, .int 0])), (sl, .inr (0, [.ref sa, .int 0, .int 0]))] sz [.ref h0, .int v]) (va_Qi (fun (r : Int32) (u : Unit) => r = x_cnt v) (fun u t => True) (va_A [(h0, .inr (5, [.ref rd, .ref mc, .int (-1)])), (mc, .inr (2, [.ref va, .ref ch, .ref gi, .ref bo, .ref qu, .ref sl, .ref sk, .int 0, .int 0, .int 0, .long 0])), (gi, .inr (4, [.ref gv, .int 0])), (bo, .inr (4, [.ref bv, .int 0])), (qu, .inr (0, [.ref qa, .int 0, .int 0])), (sl, .inr (0, [.ref sa, .int 0, .int 0]))] sz)) 0 0 (va_A [(h0, .inr (5, [.ref rd, .ref mc, .int (-1)])), (mc, .inr (2, [.ref va, .ref ch, .ref gi, .ref bo, .ref qu, .ref sl, .ref sk, .int 0, .int 0, .int 0, .long 0])), (gi, .inr (4, [.ref gv, .int 0])), (bo, .inr (4, [.ref bv, .int 0])), (qu, .inr (0, [.ref qa, .int 0, .int 0])), (sl, .inr (0, [.ref sa, .int 0, .int 0]))] sz) := by
  refine Met.ofW (cc := prog_1_method_11_code) (maxL := 2) (ret := (some .int)) (by decide) rfl ?_
  intro p e s m args below meth c s₁ B hml hv
  obtain ⟨rfl, hsz, hN0, hP, hU, hZ, hD0⟩ := hv
  have hK := hU.1
  have hx := B.exec
  have hb := B.bytes
  have hr := B.returns
  have hts : ∀ w ∈ x_T, w.before ([.ref h0, .int v] : List Value).toArray s = true := fun w h => atoms_spec (ws := (Jvm.Cond.code ({ cls := "ChannelMachine", name := "count", desc := "(I)I" } : Jvm.MethodName) prog_1_method_11_code (2 : Nat) (Option.some Jvm.ClassFile.FieldType.int)) :: x_T) B.pre w (List.mem_cons_of_mem _ h)
  have hown : s.vm.findClass "ChannelMachine" = some m.cls := findClass_of_methodNamed B.named
  have hlocks := B.notSynchronized
  subst hsz
  have hD := hD0.self (sz := s.heap.size)
  have hAN := x_AN hD0 hN0
  generalize hAe : va_A [(h0, .inr (5, [.ref rd, .ref mc, .int (-1)])), (mc, .inr (2, [.ref va, .ref ch, .ref gi, .ref bo, .ref qu, .ref sl, .ref sk, .int 0, .int 0, .int 0, .long 0])), (gi, .inr (4, [.ref gv, .int 0])), (bo, .inr (4, [.ref bv, .int 0])), (qu, .inr (0, [.ref qa, .int 0, .int 0])), (sl, .inr (0, [.ref sa, .int 0, .int 0]))] s.heap.size = A at hD hAN ⊢
  have hA : ∀ q : Nat, s.heap.size ≤ q → A q := fun q h => by rw [← hAe]; exact Or.inr h
  have hS : va_S A s.heap s.heap [] := va_S.rf
  have hP : va_P (dC, dI) x_cl [(h0, .inr (5, [.ref rd, .ref mc, .int (-1)])), (mc, .inr (2, [.ref va, .ref ch, .ref gi, .ref bo, .ref qu, .ref sl, .ref sk, .int 0, .int 0, .int 0, .long 0])), (gi, .inr (4, [.ref gv, .int 0])), (bo, .inr (4, [.ref bv, .int 0])), (qu, .inr (0, [.ref qa, .int 0, .int 0])), (sl, .inr (0, [.ref sa, .int 0, .int 0]))] s.heap := hP
  have hl := lv_entry ([.ref h0, .int v]) (n := 2) (Nat.le_of_ble_eq_true rfl)
  rw [lg_entry_eq]
  generalize (lg_sl ([.ref h0, .int v]) ++ List.replicate (2 - (lg_sl ([.ref h0, .int v])).length) Slot.unset).toArray = ls at hl ⊢
  have hl : lv_has ls 2 [(0, .ref h0), (1, .int v)] := hl
  have hH0 : s.heap.size ≤ s.heap.size := Nat.le_refl _
  refine lv_iload_n hx hb d_CM_count_0 rfl (lv_at hl 1 rfl) ?_
  rcases x_9 v with h9 | rfl | rfl | rfl | rfl | rfl | rfl | rfl | rfl | rfl
  · refine lv_tableOut (tgt := 138) hx hb d_CM_count_1 h9 (by decide) ?_
    refine lv_iconst (v := (-1)) hx hb d_CM_count_138 (by decide) ?_
    refine W.widen (k := 0) (n := 0) (Nat.le_of_ble_eq_true rfl) (Nat.le_of_ble_eq_true rfl) ?_
    exact W.iret (v := (-1)) hx hb hr (fun t ht hW => ⟨⟨(-1), (), rfl, x_cnt_out h9, trivial⟩, hS.F ht⟩) hS.2.2 d_CM_count_139
  · refine lv_tableIn (tgt := 52) hx hb d_CM_count_1 (by decide) (by decide) (off := 51) rfl (by decide) ?_
    refine lv_aload_n hx hb d_CM_count_52 rfl (lv_at hl 0 rfl) ?_
    refine va_get (D := (dC, dI)) (ci := 5) (v := .int (-1)) (C := "ChannelMachine") (T := F_CM) (N := 3) hx hb hts i_CM hown hK hP 0 rfl rfl 2 (by decide) (hts _ k_196) (fun _ h9 => h9) rfl d_CM_count_53 ?_
    refine W.widen (k := 0) (n := 0) (Nat.le_of_ble_eq_true rfl) (Nat.le_of_ble_eq_true rfl) ?_
    exact W.iret (v := (-1)) hx hb hr (fun t ht hW => ⟨⟨(-1), (), rfl, by decide, trivial⟩, hS.F ht⟩) hS.2.2 d_CM_count_56
  · refine lv_tableIn (tgt := 57) hx hb d_CM_count_1 (by decide) (by decide) (off := 56) rfl (by decide) ?_
    refine lv_aload_n hx hb d_CM_count_57 rfl (lv_at hl 0 rfl) ?_
    refine va_get (D := (dC, dI)) (ci := 5) (v := .ref mc) (C := "ChannelMachine") (T := F_CM) (N := 3) hx hb hts i_CM hown hK hP 0 rfl rfl 1 (by decide) (hts _ k_195) (fun _ h9 => h9) rfl d_CM_count_58 ?_
    refine va_getN (D := (dC, dI)) (ci := 2) (v := .long 0) (C := "ChannelMachine$Machine") (T := F_Machine) (N := 11) hx hb hts i_Machine hown hK hP 1 rfl rfl 10 (by decide) (hU.2.1 _ kn_170) (fun _ h9 => h9) rfl d_CM_count_61 ?_
    refine lv_l2i (v := 0) hx hb d_CM_count_64 (by decide) ?_
    refine W.widen (k := 0) (n := 0) (Nat.le_of_ble_eq_true rfl) (Nat.le_of_ble_eq_true rfl) ?_
    exact W.iret (v := 0) hx hb hr (fun t ht hW => ⟨⟨0, (), rfl, by decide, trivial⟩, hS.F ht⟩) hS.2.2 d_CM_count_65
  · refine lv_tableIn (tgt := 66) hx hb d_CM_count_1 (by decide) (by decide) (off := 65) rfl (by decide) ?_
    refine lv_aload_n hx hb d_CM_count_66 rfl (lv_at hl 0 rfl) ?_
    refine va_get (D := (dC, dI)) (ci := 5) (v := .ref mc) (C := "ChannelMachine") (T := F_CM) (N := 3) hx hb hts i_CM hown hK hP 0 rfl rfl 1 (by decide) (hts _ k_195) (fun _ h9 => h9) rfl d_CM_count_67 ?_
    refine va_getN (D := (dC, dI)) (ci := 2) (v := .ref qu) (C := "ChannelMachine$Machine") (T := F_Machine) (N := 11) hx hb hts i_Machine hown hK hP 1 rfl rfl 4 (by decide) (hU.2.1 _ kn_159) (fun _ h9 => h9) rfl d_CM_count_70 ?_
    have hPc := hP.sub (ws' := [(qu, .inr (0, [.ref qa, .int 0, .int 0]))]) [4] rfl
    have hDc := hD.sub (ws' := [(qu, .inr (0, [.ref qa, .int 0, .int 0]))]) [4] (by decide) rfl
    have hFc := va_free (wc := [(qu, .inr (0, [.ref qa, .int 0, .int 0]))]) hD hS hA [4] rfl
    refine va_callFi (va_runF (As := []) (rest := []) (hK.1 0 _ rfl).2 ⟨hx, hb, hml, hown, hts⟩ (c_List_size l dC dI ar N0 z qu qa s.heap.size) (va_cwF 0 hts (x_goodF k_209 k_213 k_215 k_7 k_217) rfl rfl rfl hU.2.2.2.2.1 (by decide +kernel) ⟨Nat.le_of_ble_eq_true rfl, Nat.le_of_ble_eq_true rfl⟩) ⟨x_blind, va_recv hK hPc (ci := 0) (q0 := 0) rfl rfl, fun U hU9 hW => x_pre hU9 hW hPc hDc hU hZ hS hAN hN0⟩ rfl rfl hl.1 rfl (lv_room (Nat.le_of_ble_eq_true rfl)) d_CM_count_73 ⟨Nat.le_of_ble_eq_true rfl, Nat.le_of_ble_eq_true rfl⟩) hS (fun q _ h => hFc q h) hFc (fun r9 u t H1 locs ht hvm hw hB hz1 hk1 hS => ?_)
    obtain ⟨hP1, hD1⟩ := hB
    rw [ht] at hP1
    obtain ⟨hP, hD⟩ := va_join (wr := [(h0, .inr (5, [.ref rd, .ref mc, .int (-1)])), (mc, .inr (2, [.ref va, .ref ch, .ref gi, .ref bo, .ref qu, .ref sl, .ref sk, .int 0, .int 0, .int 0, .long 0])), (gi, .inr (4, [.ref gv, .int 0])), (bo, .inr (4, [.ref bv, .int 0])), (sl, .inr (0, [.ref sa, .int 0, .int 0]))]) (w1 := [(qu, .inr (0, [.ref qa, .int 0, .int 0]))]) hP hD [4] [0, 1, 2, 3, 5] rfl rfl (by decide) (by decide) hk1 hFc hP1 hD1
    generalize H1 = H at hP hS ⊢
    have hP : va_P (dC, dI) x_cl [(h0, .inr (5, [.ref rd, .ref mc, .int (-1)])), (mc, .inr (2, [.ref va, .ref ch, .ref gi, .ref bo, .ref qu, .ref sl, .ref sk, .int 0, .int 0, .int 0, .long 0])), (gi, .inr (4, [.ref gv, .int 0])), (bo, .inr (4, [.ref bv, .int 0])), (sl, .inr (0, [.ref sa, .int 0, .int 0])), (qu, .inr (0, [.ref qa, .int 0, .int 0]))] H := hP
    have hD : va_D A [(h0, .inr (5, [.ref rd, .ref mc, .int (-1)])), (mc, .inr (2, [.ref va, .ref ch, .ref gi, .ref bo, .ref qu, .ref sl, .ref sk, .int 0, .int 0, .int 0, .long 0])), (gi, .inr (4, [.ref gv, .int 0])), (bo, .inr (4, [.ref bv, .int 0])), (sl, .inr (0, [.ref sa, .int 0, .int 0])), (qu, .inr (0, [.ref qa, .int 0, .int 0]))] := hD
    refine W.widen (k := 0) (n := 0) (Nat.le_of_ble_eq_true rfl) (Nat.le_of_ble_eq_true rfl) ?_
    obtain rfl := hw
    refine W.widen (k := 0) (n := 0) (Nat.le_of_ble_eq_true rfl) (Nat.le_of_ble_eq_true rfl) ?_
    exact W.iret (v := 0) hx hb hr (fun t ht hW => ⟨⟨0, (), rfl, by decide, trivial⟩, hS.F ht⟩) hS.2.2 d_CM_count_78
  · refine lv_tableIn (tgt := 79) hx hb d_CM_count_1 (by decide) (by decide) (off := 78) rfl (by decide) ?_
    refine lv_aload_n hx hb d_CM_count_79 rfl (lv_at hl 0 rfl) ?_
    refine va_get (D := (dC, dI)) (ci := 5) (v := .ref mc) (C := "ChannelMachine") (T := F_CM) (N := 3) hx hb hts i_CM hown hK hP 0 rfl rfl 1 (by decide) (hts _ k_195) (fun _ h9 => h9) rfl d_CM_count_80 ?_
    refine va_getN (D := (dC, dI)) (ci := 2) (v := .int 0) (C := "ChannelMachine$Machine") (T := F_Machine) (N := 11) hx hb hts i_Machine hown hK hP 1 rfl rfl 8 (by decide) (hU.2.1 _ kn_166) (fun _ h9 => h9) rfl d_CM_count_83 ?_
    refine W.widen (k := 0) (n := 0) (Nat.le_of_ble_eq_true rfl) (Nat.le_of_ble_eq_true rfl) ?_
    exact W.iret (v := 0) hx hb hr (fun t ht hW => ⟨⟨0, (), rfl, by decide, trivial⟩, hS.F ht⟩) hS.2.2 d_CM_count_86
  · refine lv_tableIn (tgt := 87) hx hb d_CM_count_1 (by decide) (by decide) (off := 86) rfl (by decide) ?_
    refine lv_aload_n hx hb d_CM_count_87 rfl (lv_at hl 0 rfl) ?_
    refine va_get (D := (dC, dI)) (ci := 5) (v := .ref mc) (C := "ChannelMachine") (T := F_CM) (N := 3) hx hb hts i_CM hown hK hP 0 rfl rfl 1 (by decide) (hts _ k_195) (fun _ h9 => h9) rfl d_CM_count_88 ?_
    refine va_getN (D := (dC, dI)) (ci := 2) (v := .int 0) (C := "ChannelMachine$Machine") (T := F_Machine) (N := 11) hx hb hts i_Machine hown hK hP 1 rfl rfl 9 (by decide) (hU.2.1 _ kn_168) (fun _ h9 => h9) rfl d_CM_count_91 ?_
    refine W.widen (k := 0) (n := 0) (Nat.le_of_ble_eq_true rfl) (Nat.le_of_ble_eq_true rfl) ?_
    exact W.iret (v := 0) hx hb hr (fun t ht hW => ⟨⟨0, (), rfl, by decide, trivial⟩, hS.F ht⟩) hS.2.2 d_CM_count_94
  · refine lv_tableIn (tgt := 95) hx hb d_CM_count_1 (by decide) (by decide) (off := 94) rfl (by decide) ?_
    refine lv_aload_n hx hb d_CM_count_95 rfl (lv_at hl 0 rfl) ?_
    refine va_get (D := (dC, dI)) (ci := 5) (v := .ref mc) (C := "ChannelMachine") (T := F_CM) (N := 3) hx hb hts i_CM hown hK hP 0 rfl rfl 1 (by decide) (hts _ k_195) (fun _ h9 => h9) rfl d_CM_count_96 ?_
    refine va_getN (D := (dC, dI)) (ci := 2) (v := .ref gi) (C := "ChannelMachine$Machine") (T := F_Machine) (N := 11) hx hb hts i_Machine hown hK hP 1 rfl rfl 2 (by decide) (hU.2.1 _ kn_155) (fun _ h9 => h9) rfl d_CM_count_99 ?_
    refine va_getN (D := (dC, dI)) (ci := 4) (v := .int 0) (C := "ChannelMachine$Row") (T := F_Row) (N := 2) hx hb hts i_Row hown hK hP 2 rfl rfl 1 (by decide) (hU.2.1 _ kn_94) (fun _ h9 => h9) rfl d_CM_count_102 ?_
    refine W.widen (k := 0) (n := 0) (Nat.le_of_ble_eq_true rfl) (Nat.le_of_ble_eq_true rfl) ?_
    exact W.iret (v := 0) hx hb hr (fun t ht hW => ⟨⟨0, (), rfl, by decide, trivial⟩, hS.F ht⟩) hS.2.2 d_CM_count_105
  · refine lv_tableIn (tgt := 106) hx hb d_CM_count_1 (by decide) (by decide) (off := 105) rfl (by decide) ?_
    refine lv_aload_n hx hb d_CM_count_106 rfl (lv_at hl 0 rfl) ?_
    refine va_get (D := (dC, dI)) (ci := 5) (v := .ref mc) (C := "ChannelMachine") (T := F_CM) (N := 3) hx hb hts i_CM hown hK hP 0 rfl rfl 1 (by decide) (hts _ k_195) (fun _ h9 => h9) rfl d_CM_count_107 ?_
    refine va_getN (D := (dC, dI)) (ci := 2) (v := .ref bo) (C := "ChannelMachine$Machine") (T := F_Machine) (N := 11) hx hb hts i_Machine hown hK hP 1 rfl rfl 3 (by decide) (hU.2.1 _ kn_157) (fun _ h9 => h9) rfl d_CM_count_110 ?_
    refine va_getN (D := (dC, dI)) (ci := 4) (v := .int 0) (C := "ChannelMachine$Row") (T := F_Row) (N := 2) hx hb hts i_Row hown hK hP 3 rfl rfl 1 (by decide) (hU.2.1 _ kn_94) (fun _ h9 => h9) rfl d_CM_count_113 ?_
    refine W.widen (k := 0) (n := 0) (Nat.le_of_ble_eq_true rfl) (Nat.le_of_ble_eq_true rfl) ?_
    exact W.iret (v := 0) hx hb hr (fun t ht hW => ⟨⟨0, (), rfl, by decide, trivial⟩, hS.F ht⟩) hS.2.2 d_CM_count_116
  · refine lv_tableIn (tgt := 117) hx hb d_CM_count_1 (by decide) (by decide) (off := 116) rfl (by decide) ?_
    refine lv_aload_n hx hb d_CM_count_117 rfl (lv_at hl 0 rfl) ?_
    refine va_get (D := (dC, dI)) (ci := 5) (v := .ref mc) (C := "ChannelMachine") (T := F_CM) (N := 3) hx hb hts i_CM hown hK hP 0 rfl rfl 1 (by decide) (hts _ k_195) (fun _ h9 => h9) rfl d_CM_count_118 ?_
    refine va_getN (D := (dC, dI)) (ci := 2) (v := .int 0) (C := "ChannelMachine$Machine") (T := F_Machine) (N := 11) hx hb hts i_Machine hown hK hP 1 rfl rfl 7 (by decide) (hU.2.1 _ kn_164) (fun _ h9 => h9) rfl d_CM_count_121 ?_
    refine W.widen (k := 0) (n := 0) (Nat.le_of_ble_eq_true rfl) (Nat.le_of_ble_eq_true rfl) ?_
    exact W.iret (v := 0) hx hb hr (fun t ht hW => ⟨⟨0, (), rfl, by decide, trivial⟩, hS.F ht⟩) hS.2.2 d_CM_count_124
  · refine lv_tableIn (tgt := 125) hx hb d_CM_count_1 (by decide) (by decide) (off := 124) rfl (by decide) ?_
    refine lv_aload_n hx hb d_CM_count_125 rfl (lv_at hl 0 rfl) ?_
    refine va_get (D := (dC, dI)) (ci := 5) (v := .ref mc) (C := "ChannelMachine") (T := F_CM) (N := 3) hx hb hts i_CM hown hK hP 0 rfl rfl 1 (by decide) (hts _ k_195) (fun _ h9 => h9) rfl d_CM_count_126 ?_
    refine va_getN (D := (dC, dI)) (ci := 2) (v := .ref sl) (C := "ChannelMachine$Machine") (T := F_Machine) (N := 11) hx hb hts i_Machine hown hK hP 1 rfl rfl 5 (by decide) (hU.2.1 _ kn_161) (fun _ h9 => h9) rfl d_CM_count_129 ?_
    have hPc := hP.sub (ws' := [(sl, .inr (0, [.ref sa, .int 0, .int 0]))]) [5] rfl
    have hDc := hD.sub (ws' := [(sl, .inr (0, [.ref sa, .int 0, .int 0]))]) [5] (by decide) rfl
    have hFc := va_free (wc := [(sl, .inr (0, [.ref sa, .int 0, .int 0]))]) hD hS hA [5] rfl
    refine va_callFi (va_runF (As := []) (rest := []) (hK.1 0 _ rfl).2 ⟨hx, hb, hml, hown, hts⟩ (c_List_size l dC dI ar N0 z sl sa s.heap.size) (va_cwF 0 hts (x_goodF k_209 k_213 k_215 k_7 k_217) rfl rfl rfl hU.2.2.2.2.1 (by decide +kernel) ⟨Nat.le_of_ble_eq_true rfl, Nat.le_of_ble_eq_true rfl⟩) ⟨x_blind, va_recv hK hPc (ci := 0) (q0 := 0) rfl rfl, fun U hU9 hW => x_pre hU9 hW hPc hDc hU hZ hS hAN hN0⟩ rfl rfl hl.1 rfl (lv_room (Nat.le_of_ble_eq_true rfl)) d_CM_count_132 ⟨Nat.le_of_ble_eq_true rfl, Nat.le_of_ble_eq_true rfl⟩) hS (fun q _ h => hFc q h) hFc (fun r9 u t H1 locs ht hvm hw hB hz1 hk1 hS => ?_)
    obtain ⟨hP1, hD1⟩ := hB
    rw [ht] at hP1
    obtain ⟨hP, hD⟩ := va_join (wr := [(h0, .inr (5, [.ref rd, .ref mc, .int (-1)])), (mc, .inr (2, [.ref va, .ref ch, .ref gi, .ref bo, .ref qu, .ref sl, .ref sk, .int 0, .int 0, .int 0, .long 0])), (gi, .inr (4, [.ref gv, .int 0])), (bo, .inr (4, [.ref bv, .int 0])), (qu, .inr (0, [.ref qa, .int 0, .int 0]))]) (w1 := [(sl, .inr (0, [.ref sa, .int 0, .int 0]))]) hP hD [5] [0, 1, 2, 3, 4] rfl rfl (by decide) (by decide) hk1 hFc hP1 hD1
    generalize H1 = H at hP hS ⊢
    have hP : va_P (dC, dI) x_cl [(h0, .inr (5, [.ref rd, .ref mc, .int (-1)])), (mc, .inr (2, [.ref va, .ref ch, .ref gi, .ref bo, .ref qu, .ref sl, .ref sk, .int 0, .int 0, .int 0, .long 0])), (gi, .inr (4, [.ref gv, .int 0])), (bo, .inr (4, [.ref bv, .int 0])), (qu, .inr (0, [.ref qa, .int 0, .int 0])), (sl, .inr (0, [.ref sa, .int 0, .int 0]))] H := hP
    have hD : va_D A [(h0, .inr (5, [.ref rd, .ref mc, .int (-1)])), (mc, .inr (2, [.ref va, .ref ch, .ref gi, .ref bo, .ref qu, .ref sl, .ref sk, .int 0, .int 0, .int 0, .long 0])), (gi, .inr (4, [.ref gv, .int 0])), (bo, .inr (4, [.ref bv, .int 0])), (qu, .inr (0, [.ref qa, .int 0, .int 0])), (sl, .inr (0, [.ref sa, .int 0, .int 0]))] := hD
    refine W.widen (k := 0) (n := 0) (Nat.le_of_ble_eq_true rfl) (Nat.le_of_ble_eq_true rfl) ?_
    obtain rfl := hw
    refine W.widen (k := 0) (n := 0) (Nat.le_of_ble_eq_true rfl) (Nat.le_of_ble_eq_true rfl) ?_
    exact W.iret (v := 0) hx hb hr (fun t ht hW => ⟨⟨0, (), rfl, by decide, trivial⟩, hS.F ht⟩) hS.2.2 d_CM_count_137
end
section
-- ===== 11.law: the law's helpers, by program =====
theorem k_1 : (Jvm.Cond.initialized "ChannelMachine") ∈ x_T := x_at 1 (by decide +kernel) (by decide +kernel)
theorem k_221 : (Jvm.Cond.classLink "ChannelMachineLaw" (13 : Nat) "java/lang/IllegalArgumentException") ∈ x_T := x_at 221 (by decide +kernel) (by decide +kernel)
theorem k_222 : (Jvm.Cond.classLink "ChannelMachineLaw" (15 : Nat) "java/lang/IllegalStateException") ∈ x_T := x_at 222 (by decide +kernel) (by decide +kernel)
theorem k_709 : (Jvm.Cond.codeWith ({ cls := "ChannelMachineLaw", name := "run", desc := "(LChannelMachine;I[J)I" } : Jvm.MethodName) method_5_code (4 : Nat) (Option.some Jvm.ClassFile.FieldType.int) [((0 : Nat), (9 : Nat), (12 : Nat), (13 : Nat)), ((0 : Nat), (9 : Nat), (15 : Nat), (15 : Nat)), ((0 : Nat), (9 : Nat), (18 : Nat), (25 : Nat))]) ∈ x_T := x_at 709 (by decide +kernel) (by decide +kernel)
theorem k_711 : (Jvm.Cond.methodLink "ChannelMachineLaw" (21 : Nat) ({ cls := "ChannelMachine", name := "run", desc := "(I)I" } : Jvm.MethodName)) ∈ x_T := x_at 711 (by decide +kernel) (by decide +kernel)
theorem k_712 : (Jvm.Cond.instanceMethod ({ cls := "ChannelMachine", name := "run", desc := "(I)I" } : Jvm.MethodName)) ∈ x_T := x_at 712 (by decide +kernel) (by decide +kernel)
theorem k_713 : (Jvm.Cond.selects "ChannelMachine" ({ cls := "ChannelMachine", name := "run", desc := "(I)I" } : Jvm.MethodName) ({ cls := "ChannelMachine", name := "run", desc := "(I)I" } : Jvm.MethodName)) ∈ x_T := x_at 713 (by decide +kernel) (by decide +kernel)
theorem k_714 : (Jvm.Cond.code ({ cls := "ChannelMachine", name := "run", desc := "(I)I" } : Jvm.MethodName) prog_1_method_5_code (2 : Nat) (Option.some Jvm.ClassFile.FieldType.int)) ∈ x_T := x_at 714 (by decide +kernel) (by decide +kernel)
theorem k_899 : (Jvm.Cond.codeWith ({ cls := "ChannelMachineLaw", name := "give", desc := "(LChannelMachine;I[J)I" } : Jvm.MethodName) method_6_code (4 : Nat) (Option.some Jvm.ClassFile.FieldType.int) [((0 : Nat), (9 : Nat), (12 : Nat), (15 : Nat))]) ∈ x_T := x_at 899 (by decide +kernel) (by decide +kernel)
theorem k_900 : (Jvm.Cond.methodLink "ChannelMachineLaw" (27 : Nat) ({ cls := "ChannelMachine", name := "give", desc := "(I)I" } : Jvm.MethodName)) ∈ x_T := x_at 900 (by decide +kernel) (by decide +kernel)
theorem k_901 : (Jvm.Cond.instanceMethod ({ cls := "ChannelMachine", name := "give", desc := "(I)I" } : Jvm.MethodName)) ∈ x_T := x_at 901 (by decide +kernel) (by decide +kernel)
theorem k_902 : (Jvm.Cond.selects "ChannelMachine" ({ cls := "ChannelMachine", name := "give", desc := "(I)I" } : Jvm.MethodName) ({ cls := "ChannelMachine", name := "give", desc := "(I)I" } : Jvm.MethodName)) ∈ x_T := x_at 902 (by decide +kernel) (by decide +kernel)
theorem k_903 : (Jvm.Cond.code ({ cls := "ChannelMachine", name := "give", desc := "(I)I" } : Jvm.MethodName) prog_1_method_6_code (2 : Nat) (Option.some Jvm.ClassFile.FieldType.int)) ∈ x_T := x_at 903 (by decide +kernel) (by decide +kernel)
theorem k_940 : (Jvm.Cond.codeWith ({ cls := "ChannelMachineLaw", name := "variable", desc := "(LChannelMachine;I[J)I" } : Jvm.MethodName) method_8_code (4 : Nat) (Option.some Jvm.ClassFile.FieldType.int) [((0 : Nat), (9 : Nat), (12 : Nat), (13 : Nat))]) ∈ x_T := x_at 940 (by decide +kernel) (by decide +kernel)
theorem k_941 : (Jvm.Cond.methodLink "ChannelMachineLaw" (35 : Nat) ({ cls := "ChannelMachine", name := "variable", desc := "(I)I" } : Jvm.MethodName)) ∈ x_T := x_at 941 (by decide +kernel) (by decide +kernel)
theorem k_942 : (Jvm.Cond.instanceMethod ({ cls := "ChannelMachine", name := "variable", desc := "(I)I" } : Jvm.MethodName)) ∈ x_T := x_at 942 (by decide +kernel) (by decide +kernel)
theorem k_943 : (Jvm.Cond.selects "ChannelMachine" ({ cls := "ChannelMachine", name := "variable", desc := "(I)I" } : Jvm.MethodName) ({ cls := "ChannelMachine", name := "variable", desc := "(I)I" } : Jvm.MethodName)) ∈ x_T := x_at 943 (by decide +kernel) (by decide +kernel)
theorem k_944 : (Jvm.Cond.code ({ cls := "ChannelMachine", name := "variable", desc := "(I)I" } : Jvm.MethodName) prog_1_method_8_code (2 : Nat) (Option.some Jvm.ClassFile.FieldType.int)) ∈ x_T := x_at 944 (by decide +kernel) (by decide +kernel)
theorem k_948 : (Jvm.Cond.codeWith ({ cls := "ChannelMachineLaw", name := "set", desc := "(LChannelMachine;II)I" } : Jvm.MethodName) method_9_code (4 : Nat) (Option.some Jvm.ClassFile.FieldType.int) [((0 : Nat), (6 : Nat), (9 : Nat), (13 : Nat))]) ∈ x_T := x_at 948 (by decide +kernel) (by decide +kernel)
theorem k_949 : (Jvm.Cond.methodLink "ChannelMachineLaw" (38 : Nat) ({ cls := "ChannelMachine", name := "set", desc := "(II)V" } : Jvm.MethodName)) ∈ x_T := x_at 949 (by decide +kernel) (by decide +kernel)
theorem k_950 : (Jvm.Cond.instanceMethod ({ cls := "ChannelMachine", name := "set", desc := "(II)V" } : Jvm.MethodName)) ∈ x_T := x_at 950 (by decide +kernel) (by decide +kernel)
theorem k_951 : (Jvm.Cond.selects "ChannelMachine" ({ cls := "ChannelMachine", name := "set", desc := "(II)V" } : Jvm.MethodName) ({ cls := "ChannelMachine", name := "set", desc := "(II)V" } : Jvm.MethodName)) ∈ x_T := x_at 951 (by decide +kernel) (by decide +kernel)
theorem k_952 : (Jvm.Cond.code ({ cls := "ChannelMachine", name := "set", desc := "(II)V" } : Jvm.MethodName) prog_1_method_9_code (3 : Nat) (Option.none : Option Jvm.ClassFile.FieldType)) ∈ x_T := x_at 952 (by decide +kernel) (by decide +kernel)
theorem k_955 : (Jvm.Cond.codeWith ({ cls := "ChannelMachineLaw", name := "channel", desc := "(LChannelMachine;I[J)I" } : Jvm.MethodName) method_10_code (4 : Nat) (Option.some Jvm.ClassFile.FieldType.int) [((0 : Nat), (9 : Nat), (12 : Nat), (13 : Nat))]) ∈ x_T := x_at 955 (by decide +kernel) (by decide +kernel)
theorem k_956 : (Jvm.Cond.methodLink "ChannelMachineLaw" (42 : Nat) ({ cls := "ChannelMachine", name := "channel", desc := "(I)I" } : Jvm.MethodName)) ∈ x_T := x_at 956 (by decide +kernel) (by decide +kernel)
theorem k_957 : (Jvm.Cond.instanceMethod ({ cls := "ChannelMachine", name := "channel", desc := "(I)I" } : Jvm.MethodName)) ∈ x_T := x_at 957 (by decide +kernel) (by decide +kernel)
theorem k_958 : (Jvm.Cond.selects "ChannelMachine" ({ cls := "ChannelMachine", name := "channel", desc := "(I)I" } : Jvm.MethodName) ({ cls := "ChannelMachine", name := "channel", desc := "(I)I" } : Jvm.MethodName)) ∈ x_T := x_at 958 (by decide +kernel) (by decide +kernel)
theorem k_959 : (Jvm.Cond.code ({ cls := "ChannelMachine", name := "channel", desc := "(I)I" } : Jvm.MethodName) prog_1_method_10_code (3 : Nat) (Option.some Jvm.ClassFile.FieldType.int)) ∈ x_T := x_at 959 (by decide +kernel) (by decide +kernel)
theorem kn_133 : (Jvm.Cond.fieldLinkNest "ChannelMachine" (139 : Nat) "ChannelMachine$Channel" "sender" "LChannelMachine$Task;" "ChannelMachine") ∈ x_nest := x_nest_at 133 (by decide +kernel) (by decide +kernel)
theorem kn_136 : (Jvm.Cond.fieldLinkNest "ChannelMachine" (134 : Nat) "ChannelMachine$Channel" "receiver" "LChannelMachine$Task;" "ChannelMachine") ∈ x_nest := x_nest_at 136 (by decide +kernel) (by decide +kernel)
theorem kn_153 : (Jvm.Cond.fieldLinkNest "ChannelMachine" (130 : Nat) "ChannelMachine$Machine" "channels" "[LChannelMachine$Channel;" "ChannelMachine") ∈ x_nest := x_nest_at 153 (by decide +kernel) (by decide +kernel)
theorem kn_232 : (Jvm.Cond.castable "java/lang/IllegalArgumentException" "java/lang/IllegalArgumentException") ∈ x_nest := x_nest_at 232 (by decide +kernel) (by decide +kernel)
theorem kn_301 : (Jvm.Cond.castable "java/lang/IllegalStateException" "java/lang/IllegalStateException") ∈ x_nest := x_nest_at 301 (by decide +kernel) (by decide +kernel)
theorem d_La_variable_0 : decode method_8_code 0 = .ok (.aload_n 2, 1) := by decide +kernel
theorem d_La_variable_1 : decode method_8_code 1 = .ok (.iconst 0, 1) := by decide +kernel
theorem d_La_variable_2 : decode method_8_code 2 = .ok (.aload_n 0, 1) := by decide +kernel
theorem d_La_variable_3 : decode method_8_code 3 = .ok (.iload_n 1, 1) := by decide +kernel
theorem d_La_variable_4 : decode method_8_code 4 = .ok (.invokevirtual 35, 3) := by decide +kernel
theorem d_La_variable_7 : decode method_8_code 7 = .ok (.i2l, 1) := by decide +kernel
theorem d_La_variable_8 : decode method_8_code 8 = .ok (.lastore, 1) := by decide +kernel
theorem d_La_variable_9 : decode method_8_code 9 = .ok (.goto 6, 3) := by decide +kernel
theorem d_La_variable_12 : decode method_8_code 12 = .ok (.astore_n 3, 1) := by decide +kernel
theorem d_La_variable_13 : decode method_8_code 13 = .ok (.iconst 1, 1) := by decide +kernel
theorem d_La_variable_14 : decode method_8_code 14 = .ok (.ireturn, 1) := by decide +kernel
theorem d_La_variable_15 : decode method_8_code 15 = .ok (.iconst 0, 1) := by decide +kernel
theorem d_La_variable_16 : decode method_8_code 16 = .ok (.ireturn, 1) := by decide +kernel
theorem d_La_set_0 : decode method_9_code 0 = .ok (.aload_n 0, 1) := by decide +kernel
theorem d_La_set_1 : decode method_9_code 1 = .ok (.iload_n 1, 1) := by decide +kernel
theorem d_La_set_2 : decode method_9_code 2 = .ok (.iload_n 2, 1) := by decide +kernel
theorem d_La_set_3 : decode method_9_code 3 = .ok (.invokevirtual 38, 3) := by decide +kernel
theorem d_La_set_6 : decode method_9_code 6 = .ok (.goto 6, 3) := by decide +kernel
theorem d_La_set_9 : decode method_9_code 9 = .ok (.astore_n 3, 1) := by decide +kernel
theorem d_La_set_10 : decode method_9_code 10 = .ok (.iconst 1, 1) := by decide +kernel
theorem d_La_set_11 : decode method_9_code 11 = .ok (.ireturn, 1) := by decide +kernel
theorem d_La_set_12 : decode method_9_code 12 = .ok (.iconst 0, 1) := by decide +kernel
theorem d_La_set_13 : decode method_9_code 13 = .ok (.ireturn, 1) := by decide +kernel
theorem d_La_give_0 : decode method_6_code 0 = .ok (.aload_n 2, 1) := by decide +kernel
theorem d_La_give_1 : decode method_6_code 1 = .ok (.iconst 0, 1) := by decide +kernel
theorem d_La_give_2 : decode method_6_code 2 = .ok (.aload_n 0, 1) := by decide +kernel
theorem d_La_give_3 : decode method_6_code 3 = .ok (.iload_n 1, 1) := by decide +kernel
theorem d_La_give_4 : decode method_6_code 4 = .ok (.invokevirtual 27, 3) := by decide +kernel
theorem d_La_give_7 : decode method_6_code 7 = .ok (.i2l, 1) := by decide +kernel
theorem d_La_give_8 : decode method_6_code 8 = .ok (.lastore, 1) := by decide +kernel
theorem d_La_give_9 : decode method_6_code 9 = .ok (.goto 6, 3) := by decide +kernel
theorem d_La_give_12 : decode method_6_code 12 = .ok (.astore_n 3, 1) := by decide +kernel
theorem d_La_give_13 : decode method_6_code 13 = .ok (.iconst 1, 1) := by decide +kernel
theorem d_La_give_14 : decode method_6_code 14 = .ok (.ireturn, 1) := by decide +kernel
theorem d_La_give_15 : decode method_6_code 15 = .ok (.iconst 0, 1) := by decide +kernel
theorem d_La_give_16 : decode method_6_code 16 = .ok (.ireturn, 1) := by decide +kernel
theorem d_La_run_0 : decode method_5_code 0 = .ok (.aload_n 2, 1) := by decide +kernel
theorem d_La_run_1 : decode method_5_code 1 = .ok (.iconst 0, 1) := by decide +kernel
theorem d_La_run_2 : decode method_5_code 2 = .ok (.aload_n 0, 1) := by decide +kernel
theorem d_La_run_3 : decode method_5_code 3 = .ok (.iload_n 1, 1) := by decide +kernel
theorem d_La_run_4 : decode method_5_code 4 = .ok (.invokevirtual 21, 3) := by decide +kernel
theorem d_La_run_7 : decode method_5_code 7 = .ok (.i2l, 1) := by decide +kernel
theorem d_La_run_8 : decode method_5_code 8 = .ok (.lastore, 1) := by decide +kernel
theorem d_La_run_9 : decode method_5_code 9 = .ok (.goto 12, 3) := by decide +kernel
theorem d_La_run_12 : decode method_5_code 12 = .ok (.astore_n 3, 1) := by decide +kernel
theorem d_La_run_13 : decode method_5_code 13 = .ok (.iconst 1, 1) := by decide +kernel
theorem d_La_run_14 : decode method_5_code 14 = .ok (.ireturn, 1) := by decide +kernel
theorem d_La_run_15 : decode method_5_code 15 = .ok (.astore_n 3, 1) := by decide +kernel
theorem d_La_run_16 : decode method_5_code 16 = .ok (.iconst 2, 1) := by decide +kernel
theorem d_La_run_17 : decode method_5_code 17 = .ok (.ireturn, 1) := by decide +kernel
theorem d_La_run_18 : decode method_5_code 18 = .ok (.astore_n 3, 1) := by decide +kernel
theorem d_La_run_19 : decode method_5_code 19 = .ok (.iconst 3, 1) := by decide +kernel
theorem d_La_run_20 : decode method_5_code 20 = .ok (.ireturn, 1) := by decide +kernel
theorem d_La_run_21 : decode method_5_code 21 = .ok (.iconst 0, 1) := by decide +kernel
theorem d_La_run_22 : decode method_5_code 22 = .ok (.ireturn, 1) := by decide +kernel
theorem d_CM_channel_0 : decode prog_1_method_10_code 0 = .ok (.iload_n 1, 1) := by decide +kernel
theorem d_CM_channel_1 : decode prog_1_method_10_code 1 = .ok (.ifCond .lt 9, 3) := by decide +kernel
theorem d_CM_channel_4 : decode prog_1_method_10_code 4 = .ok (.iload_n 1, 1) := by decide +kernel
theorem d_CM_channel_5 : decode prog_1_method_10_code 5 = .ok (.bipush 6, 2) := by decide +kernel
theorem d_CM_channel_7 : decode prog_1_method_10_code 7 = .ok (.if_icmp .lt 13, 3) := by decide +kernel
theorem d_CM_channel_10 : decode prog_1_method_10_code 10 = .ok (.new 31, 3) := by decide +kernel
theorem d_CM_channel_13 : decode prog_1_method_10_code 13 = .ok (.dup, 1) := by decide +kernel
theorem d_CM_channel_14 : decode prog_1_method_10_code 14 = .ok (.ldc 128, 2) := by decide +kernel
theorem d_CM_channel_16 : decode prog_1_method_10_code 16 = .ok (.invokespecial 35, 3) := by decide +kernel
theorem d_CM_channel_19 : decode prog_1_method_10_code 19 = .ok (.athrow, 1) := by decide +kernel
theorem d_CM_channel_20 : decode prog_1_method_10_code 20 = .ok (.aload_n 0, 1) := by decide +kernel
theorem d_CM_channel_21 : decode prog_1_method_10_code 21 = .ok (.getfield 19, 3) := by decide +kernel
theorem d_CM_channel_24 : decode prog_1_method_10_code 24 = .ok (.getfield 130, 3) := by decide +kernel
theorem d_CM_channel_27 : decode prog_1_method_10_code 27 = .ok (.iload_n 1, 1) := by decide +kernel
theorem d_CM_channel_28 : decode prog_1_method_10_code 28 = .ok (.aaload, 1) := by decide +kernel
theorem d_CM_channel_29 : decode prog_1_method_10_code 29 = .ok (.astore_n 2, 1) := by decide +kernel
theorem d_CM_channel_30 : decode prog_1_method_10_code 30 = .ok (.aload_n 2, 1) := by decide +kernel
theorem d_CM_channel_31 : decode prog_1_method_10_code 31 = .ok (.getfield 134, 3) := by decide +kernel
theorem d_CM_channel_34 : decode prog_1_method_10_code 34 = .ok (.ifnull 5, 3) := by decide +kernel
theorem d_CM_channel_37 : decode prog_1_method_10_code 37 = .ok (.iconst 1, 1) := by decide +kernel
theorem d_CM_channel_38 : decode prog_1_method_10_code 38 = .ok (.ireturn, 1) := by decide +kernel
theorem d_CM_channel_39 : decode prog_1_method_10_code 39 = .ok (.aload_n 2, 1) := by decide +kernel
theorem d_CM_channel_40 : decode prog_1_method_10_code 40 = .ok (.getfield 139, 3) := by decide +kernel
theorem d_CM_channel_43 : decode prog_1_method_10_code 43 = .ok (.ifnull 7, 3) := by decide +kernel
theorem d_CM_channel_46 : decode prog_1_method_10_code 46 = .ok (.iconst 2, 1) := by decide +kernel
theorem d_CM_channel_47 : decode prog_1_method_10_code 47 = .ok (.goto 4, 3) := by decide +kernel
theorem d_CM_channel_50 : decode prog_1_method_10_code 50 = .ok (.iconst 0, 1) := by decide +kernel
theorem d_CM_channel_51 : decode prog_1_method_10_code 51 = .ok (.ireturn, 1) := by decide +kernel
theorem d_La_channel_0 : decode method_10_code 0 = .ok (.aload_n 2, 1) := by decide +kernel
theorem d_La_channel_1 : decode method_10_code 1 = .ok (.iconst 0, 1) := by decide +kernel
theorem d_La_channel_2 : decode method_10_code 2 = .ok (.aload_n 0, 1) := by decide +kernel
theorem d_La_channel_3 : decode method_10_code 3 = .ok (.iload_n 1, 1) := by decide +kernel
theorem d_La_channel_4 : decode method_10_code 4 = .ok (.invokevirtual 42, 3) := by decide +kernel
theorem d_La_channel_7 : decode method_10_code 7 = .ok (.i2l, 1) := by decide +kernel
theorem d_La_channel_8 : decode method_10_code 8 = .ok (.lastore, 1) := by decide +kernel
theorem d_La_channel_9 : decode method_10_code 9 = .ok (.goto 6, 3) := by decide +kernel
theorem d_La_channel_12 : decode method_10_code 12 = .ok (.astore_n 3, 1) := by decide +kernel
theorem d_La_channel_13 : decode method_10_code 13 = .ok (.iconst 1, 1) := by decide +kernel
theorem d_La_channel_14 : decode method_10_code 14 = .ok (.ireturn, 1) := by decide +kernel
theorem d_La_channel_15 : decode method_10_code 15 = .ok (.iconst 0, 1) := by decide +kernel
theorem d_La_channel_16 : decode method_10_code 16 = .ok (.ireturn, 1) := by decide +kernel
set_option maxHeartbeats 4000000 in
set_option maxRecDepth 100000 in
theorem c_La_variable (l : Launch) (hst : l.stackTraces = false) (dC : Nat → ClassId) (dI : Nat → Nat → Nat) (ar : Nat → ClassId) (N0 : Nat) (z : Nat → Nat) (ot : Nat) (h0 rd mc va ch gi bo qu sl sk : Nat) (v : Int32) (sz : Nat) : Met l ({ cls := "ChannelMachineLaw", name := "variable", desc := "(LChannelMachine;I[J)I" } : Jvm.MethodName) ((Jvm.Cond.codeWith ({ cls := "ChannelMachineLaw", name := "variable", desc := "(LChannelMachine;I[J)I" } : Jvm.MethodName) method_8_code (4 : Nat) (Option.some Jvm.ClassFile.FieldType.int) [((0 : Nat), (9 : Nat), (12 : Nat), (13 : Nat))]) :: x_T) ({ frames := 7, cells := 1, slots := 6, locals := 103 }) (x_Pc (dC, dI) ar N0 z [(ot, .inl (ar 2, 1, .inr (.inl (fun _ => 0)))), (h0, .inr (5, [.ref rd, .ref mc, .int (-1)])), (mc, .inr (2, [.ref va, .ref ch, .ref gi, .ref bo, .ref qu, .ref sl, .ref sk, .int 0, .int 0, .int 0, .long 0])), (va, .inl (ar 0, 6, .inl (fun _ => 0)))] sz [.ref h0, .int v, .ref ot]) (va_Qi (fun (r : Int32) (u : Nat → Int64) => ((¬ v < 0 ∧ v < 6) ∧ r = 0 ∧ u 0 = 0) ∨ ((v < 0 ∨ ¬ v < 6) ∧ r = 1)) (fun u t => va_P (dC, dI) x_cl [(ot, .inl (ar 2, 1, .inr (.inl u)))] t.heap ∧ va_D (va_A [(ot, .inl (ar 2, 1, .inr (.inl (fun _ => 0)))), (h0, .inr (5, [.ref rd, .ref mc, .int (-1)])), (mc, .inr (2, [.ref va, .ref ch, .ref gi, .ref bo, .ref qu, .ref sl, .ref sk, .int 0, .int 0, .int 0, .long 0])), (va, .inl (ar 0, 6, .inl (fun _ => 0)))] sz) [(ot, .inl (ar 2, 1, .inr (.inl u)))]) (va_A [(ot, .inl (ar 2, 1, .inr (.inl (fun _ => 0)))), (h0, .inr (5, [.ref rd, .ref mc, .int (-1)])), (mc, .inr (2, [.ref va, .ref ch, .ref gi, .ref bo, .ref qu, .ref sl, .ref sk, .int 0, .int 0, .int 0, .long 0])), (va, .inl (ar 0, 6, .inl (fun _ => 0)))] sz)) 1 6 (va_A [(ot, .inl (ar 2, 1, .inr (.inl (fun _ => 0)))), (h0, .inr (5, [.ref rd, .ref mc, .int (-1)])), (mc, .inr (2, [.ref va, .ref ch, .ref gi, .ref bo, .ref qu, .ref sl, .ref sk, .int 0, .int 0, .int 0, .long 0])), (va, .inl (ar 0, 6, .inl (fun _ => 0)))] sz) := by
  refine va_MetW (cc := method_8_code) (maxL := 4) (ret := (some .int)) (by decide) rfl ?_
  intro p e s m args below meth c s₁ B hml hv
  obtain ⟨rfl, hsz, hN0, hP, hU, hZ, hD0⟩ := hv
  have hK := hU.1
  have hx := B.exec
  have hb := B.bytes
  have hr := B.returns
  have hts : ∀ w ∈ x_T, w.before ([.ref h0, .int v, .ref ot] : List Value).toArray s = true := fun w h => atoms_spec (ws := (Jvm.Cond.codeWith ({ cls := "ChannelMachineLaw", name := "variable", desc := "(LChannelMachine;I[J)I" } : Jvm.MethodName) method_8_code (4 : Nat) (Option.some Jvm.ClassFile.FieldType.int) [((0 : Nat), (9 : Nat), (12 : Nat), (13 : Nat))]) :: x_T) B.pre w (List.mem_cons_of_mem _ h)
  have hown : s.vm.findClass "ChannelMachineLaw" = some m.cls := findClass_of_methodNamed B.named
  have hlocks := B.notSynchronized
  subst hsz
  have hD := hD0.self (sz := s.heap.size)
  have hAN := x_AN hD0 hN0
  generalize hAe : va_A [(ot, .inl (ar 2, 1, .inr (.inl (fun _ => 0)))), (h0, .inr (5, [.ref rd, .ref mc, .int (-1)])), (mc, .inr (2, [.ref va, .ref ch, .ref gi, .ref bo, .ref qu, .ref sl, .ref sk, .int 0, .int 0, .int 0, .long 0])), (va, .inl (ar 0, 6, .inl (fun _ => 0)))] s.heap.size = A at hD hAN ⊢
  have hA : ∀ q : Nat, s.heap.size ≤ q → A q := fun q h => by rw [← hAe]; exact Or.inr h
  have hS : va_S A s.heap s.heap [] := va_S.rf
  have hP : va_P (dC, dI) x_cl [(ot, .inl (ar 2, 1, .inr (.inl (fun _ => 0)))), (h0, .inr (5, [.ref rd, .ref mc, .int (-1)])), (mc, .inr (2, [.ref va, .ref ch, .ref gi, .ref bo, .ref qu, .ref sl, .ref sk, .int 0, .int 0, .int 0, .long 0])), (va, .inl (ar 0, 6, .inl (fun _ => 0)))] s.heap := hP
  have hl := lv_entry ([.ref h0, .int v, .ref ot]) (n := 4) (Nat.le_of_ble_eq_true rfl)
  rw [lg_entry_eq]
  generalize (lg_sl ([.ref h0, .int v, .ref ot]) ++ List.replicate (4 - (lg_sl ([.ref h0, .int v, .ref ot])).length) Slot.unset).toArray = ls at hl ⊢
  have hl : lv_has ls 4 [(0, .ref h0), (1, .int v), (2, .ref ot)] := hl
  have hH0 : s.heap.size ≤ s.heap.size := Nat.le_refl _
  have htab := vx_table (x := ({ cls := "ChannelMachineLaw", name := "variable", desc := "(LChannelMachine;I[J)I" } : Jvm.MethodName)) B (hts _ k_940)
  refine lv_aload_n hx hb d_La_variable_0 rfl (lv_at hl 2 rfl) ?_
  refine lv_iconst (v := 0) hx hb d_La_variable_1 (by decide) ?_
  refine lv_aload_n hx hb d_La_variable_2 rfl (lv_at hl 0 rfl) ?_
  refine lv_iload_n hx hb d_La_variable_3 rfl (lv_at hl 1 rfl) ?_
  have hPc := hP.sub (ws' := [(h0, .inr (5, [.ref rd, .ref mc, .int (-1)])), (mc, .inr (2, [.ref va, .ref ch, .ref gi, .ref bo, .ref qu, .ref sl, .ref sk, .int 0, .int 0, .int 0, .long 0])), (va, .inl (ar 0, 6, .inl (fun _ => 0)))]) [1, 2, 3] rfl
  have hDc := hD.sub (ws' := [(h0, .inr (5, [.ref rd, .ref mc, .int (-1)])), (mc, .inr (2, [.ref va, .ref ch, .ref gi, .ref bo, .ref qu, .ref sl, .ref sk, .int 0, .int 0, .int 0, .long 0])), (va, .inl (ar 0, 6, .inl (fun _ => 0)))]) [1, 2, 3] (by decide) rfl
  have hFc := va_free (wc := [(h0, .inr (5, [.ref rd, .ref mc, .int (-1)])), (mc, .inr (2, [.ref va, .ref ch, .ref gi, .ref bo, .ref qu, .ref sl, .ref sk, .int 0, .int 0, .int 0, .long 0])), (va, .inl (ar 0, 6, .inl (fun _ => 0)))]) hD hS hA [1, 2, 3] rfl
  refine vx_calli (vx_runV (As := [.int v]) (rest := [.int 0, .ref ot]) ⟨hx, hb, hml, hown, hts⟩ (c_CM_variable l hst dC dI ar N0 z h0 rd mc va ch gi bo qu sl sk (v) s.heap.size) (cwV 1 hts (x_goodV k_941 k_942 k_943 k_1 k_944) rfl rfl rfl (by decide +kernel) ⟨Nat.le_of_ble_eq_true rfl, Nat.le_of_ble_eq_true rfl⟩) ⟨x_blind, va_recv hK hPc (ci := 5) (q0 := 0) rfl rfl, fun U hU9 hW => x_pre hU9 hW hPc hDc hU hZ hS hAN hN0⟩ rfl rfl hl.1 rfl (lv_room (Nat.le_of_ble_eq_true rfl)) d_La_variable_4 ⟨Nat.le_of_ble_eq_true rfl, Nat.le_of_ble_eq_true rfl⟩) hS (fun q _ h => hFc q h) hFc (fun q h1 h2 => hFc q h2) (fun E ce q9 u t H1 locs ht hvm hpx hbx hz1 hk1 hS hce hcv hcl => ?_) (fun r1 u2 t H1 locs ht hvm hw hB hz1 hk1 hS => ?_)
  · have hP1 : va_P (dC, dI) x_cl [] H1 := fun k q h => by simp at h
    have hD1 : va_D (va_A [(h0, .inr (5, [.ref rd, .ref mc, .int (-1)])), (mc, .inr (2, [.ref va, .ref ch, .ref gi, .ref bo, .ref qu, .ref sl, .ref sk, .int 0, .int 0, .int 0, .long 0])), (va, .inl (ar 0, 6, .inl (fun _ => 0)))] s.heap.size) [] := ⟨fun i j p q h => by simp at h, fun k q h => by simp at h⟩
    obtain ⟨hP, hD⟩ := va_join (wr := [(ot, .inl (ar 2, 1, .inr (.inl (fun _ => 0))))]) (w1 := []) hP hD [1, 2, 3] [0] rfl rfl (by decide) (by decide) hk1 hFc hP1 hD1
    generalize H1 = H at hP hS hce ⊢
    have hP : va_P (dC, dI) x_cl [(ot, .inl (ar 2, 1, .inr (.inl (fun _ => 0))))] H := hP
    have hD : va_D A [(ot, .inl (ar 2, 1, .inr (.inl (fun _ => 0))))] := hD
    refine vx_widen (k := 1) (n := 6) (Nat.le_of_ble_eq_true rfl) (Nat.le_of_ble_eq_true rfl) ?_
    obtain rfl := hbx
    refine vx_catch hown [] ⟨0, 9, 12, 13⟩ [] htab (fun z h => by cases h) (by decide) (by decide) (hts _ k_221) (va_Nw.use rfl (hU.2.1 _ kn_232)) hce hcv hcl ?_
    refine lv_astore_n (lv' := [(3, .ref q9), (0, .ref h0), (1, .int v), (2, .ref ot)]) hx hb d_La_variable_12 rfl hl (by decide) rfl (fun ls hl => ?_)
    refine lv_iconst (v := 1) hx hb d_La_variable_13 (by decide) ?_
    refine W.widen (k := 1) (n := 6) (Nat.le_of_ble_eq_true rfl) (Nat.le_of_ble_eq_true rfl) ?_
    exact W.iret (v := 1) hx hb hr (fun t ht hW => ⟨⟨1, (fun _ => 0), rfl, Or.inr ⟨hpx, rfl⟩, ⟨by rw [ht]; exact hP.sub (ws' := [(ot, .inl (ar 2, 1, .inr (.inl (fun _ => 0))))]) [0] rfl, hD.sub (ws' := [(ot, .inl (ar 2, 1, .inr (.inl (fun _ => 0))))]) [0] (by decide) rfl⟩⟩, hS.F ht⟩) hS.2.2 d_La_variable_14
  · have hP1 : va_P (dC, dI) x_cl [] t.heap := fun k q h => by simp at h
    have hD1 : va_D (va_A [(h0, .inr (5, [.ref rd, .ref mc, .int (-1)])), (mc, .inr (2, [.ref va, .ref ch, .ref gi, .ref bo, .ref qu, .ref sl, .ref sk, .int 0, .int 0, .int 0, .long 0])), (va, .inl (ar 0, 6, .inl (fun _ => 0)))] s.heap.size) [] := ⟨fun i j p q h => by simp at h, fun k q h => by simp at h⟩
    rw [ht] at hP1
    obtain ⟨hP, hD⟩ := va_join (wr := [(ot, .inl (ar 2, 1, .inr (.inl (fun _ => 0))))]) (w1 := []) hP hD [1, 2, 3] [0] rfl rfl (by decide) (by decide) hk1 hFc hP1 hD1
    generalize H1 = H at hP hS ⊢
    have hP : va_P (dC, dI) x_cl [(ot, .inl (ar 2, 1, .inr (.inl (fun _ => 0))))] H := hP
    have hD : va_D A [(ot, .inl (ar 2, 1, .inr (.inl (fun _ => 0))))] := hD
    refine W.widen (k := 1) (n := 6) (Nat.le_of_ble_eq_true rfl) (Nat.le_of_ble_eq_true rfl) ?_
    refine lv_i2l (v := (Int32.toInt64 r1)) hx hb d_La_variable_7 rfl ?_
    refine va_last hx hb hK hP hD hS 0 2 rfl rfl (i := 0) (x := (Int32.toInt64 r1)) (by unfold vp_in; decide) d_La_variable_8 (fun H locs hP hD hS => ?_)
    have hP : va_P (dC, dI) x_cl [(ot, .inl (ar 2, 1, .inr (.inl (vp_updL (fun _ => 0) (Int32.toNatClampNeg 0) (Int32.toInt64 r1)))))] H := hP
    have hD : va_D A [(ot, .inl (ar 2, 1, .inr (.inl (vp_updL (fun _ => 0) (Int32.toNatClampNeg 0) (Int32.toInt64 r1)))))] := hD
    refine lv_goto (tgt := 15) hx hb d_La_variable_9 (by decide) ?_
    refine lv_iconst (v := 0) hx hb d_La_variable_15 (by decide) ?_
    refine W.widen (k := 1) (n := 6) (Nat.le_of_ble_eq_true rfl) (Nat.le_of_ble_eq_true rfl) ?_
    exact W.iret (v := 0) hx hb hr (fun t ht hW => ⟨⟨0, (vp_updL (fun _ => 0) (Int32.toNatClampNeg 0) (Int32.toInt64 r1)), rfl, Or.inl ⟨hw.1, rfl, by rw [hw.2]; rfl⟩, ⟨by rw [ht]; exact hP.sub (ws' := [(ot, .inl (ar 2, 1, .inr (.inl (vp_updL (fun _ => 0) (Int32.toNatClampNeg 0) (Int32.toInt64 r1)))))]) [0] rfl, hD.sub (ws' := [(ot, .inl (ar 2, 1, .inr (.inl (vp_updL (fun _ => 0) (Int32.toNatClampNeg 0) (Int32.toInt64 r1)))))]) [0] (by decide) rfl⟩⟩, hS.F ht⟩) hS.2.2 d_La_variable_16
set_option maxHeartbeats 4000000 in
set_option maxRecDepth 100000 in
theorem c_La_set (l : Launch) (hst : l.stackTraces = false) (dC : Nat → ClassId) (dI : Nat → Nat → Nat) (ar : Nat → ClassId) (N0 : Nat) (z : Nat → Nat) (h0 rd mc va ch gi bo qu sl sk : Nat) (v x : Int32) (sz : Nat) : Met l ({ cls := "ChannelMachineLaw", name := "set", desc := "(LChannelMachine;II)I" } : Jvm.MethodName) ((Jvm.Cond.codeWith ({ cls := "ChannelMachineLaw", name := "set", desc := "(LChannelMachine;II)I" } : Jvm.MethodName) method_9_code (4 : Nat) (Option.some Jvm.ClassFile.FieldType.int) [((0 : Nat), (6 : Nat), (9 : Nat), (13 : Nat))]) :: x_T) ({ frames := 7, cells := 1, slots := 6, locals := 104 }) (x_Pc (dC, dI) ar N0 z [(h0, .inr (5, [.ref rd, .ref mc, .int (-1)])), (mc, .inr (2, [.ref va, .ref ch, .ref gi, .ref bo, .ref qu, .ref sl, .ref sk, .int 0, .int 0, .int 0, .long 0])), (va, .inl (ar 0, 6, .inl (fun _ => 0)))] sz [.ref h0, .int v, .int x]) (va_Qi (fun (r : Int32) (u : Unit) => ((¬ v < 0 ∧ v < 6) ∧ r = 0) ∨ ((v < 0 ∨ ¬ v < 6) ∧ r = 1)) (fun u t => True) (va_A [(h0, .inr (5, [.ref rd, .ref mc, .int (-1)])), (mc, .inr (2, [.ref va, .ref ch, .ref gi, .ref bo, .ref qu, .ref sl, .ref sk, .int 0, .int 0, .int 0, .long 0])), (va, .inl (ar 0, 6, .inl (fun _ => 0)))] sz)) 1 6 (va_A [(h0, .inr (5, [.ref rd, .ref mc, .int (-1)])), (mc, .inr (2, [.ref va, .ref ch, .ref gi, .ref bo, .ref qu, .ref sl, .ref sk, .int 0, .int 0, .int 0, .long 0])), (va, .inl (ar 0, 6, .inl (fun _ => 0)))] sz) := by
  refine va_MetW (cc := method_9_code) (maxL := 4) (ret := (some .int)) (by decide) rfl ?_
  intro p e s m args below meth c s₁ B hml hv
  obtain ⟨rfl, hsz, hN0, hP, hU, hZ, hD0⟩ := hv
  have hK := hU.1
  have hx := B.exec
  have hb := B.bytes
  have hr := B.returns
  have hts : ∀ w ∈ x_T, w.before ([.ref h0, .int v, .int x] : List Value).toArray s = true := fun w h => atoms_spec (ws := (Jvm.Cond.codeWith ({ cls := "ChannelMachineLaw", name := "set", desc := "(LChannelMachine;II)I" } : Jvm.MethodName) method_9_code (4 : Nat) (Option.some Jvm.ClassFile.FieldType.int) [((0 : Nat), (6 : Nat), (9 : Nat), (13 : Nat))]) :: x_T) B.pre w (List.mem_cons_of_mem _ h)
  have hown : s.vm.findClass "ChannelMachineLaw" = some m.cls := findClass_of_methodNamed B.named
  have hlocks := B.notSynchronized
  subst hsz
  have hD := hD0.self (sz := s.heap.size)
  have hAN := x_AN hD0 hN0
  generalize hAe : va_A [(h0, .inr (5, [.ref rd, .ref mc, .int (-1)])), (mc, .inr (2, [.ref va, .ref ch, .ref gi, .ref bo, .ref qu, .ref sl, .ref sk, .int 0, .int 0, .int 0, .long 0])), (va, .inl (ar 0, 6, .inl (fun _ => 0)))] s.heap.size = A at hD hAN ⊢
  have hA : ∀ q : Nat, s.heap.size ≤ q → A q := fun q h => by rw [← hAe]; exact Or.inr h
  have hS : va_S A s.heap s.heap [] := va_S.rf
  have hP : va_P (dC, dI) x_cl [(h0, .inr (5, [.ref rd, .ref mc, .int (-1)])), (mc, .inr (2, [.ref va, .ref ch, .ref gi, .ref bo, .ref qu, .ref sl, .ref sk, .int 0, .int 0, .int 0, .long 0])), (va, .inl (ar 0, 6, .inl (fun _ => 0)))] s.heap := hP
  have hl := lv_entry ([.ref h0, .int v, .int x]) (n := 4) (Nat.le_of_ble_eq_true rfl)
  rw [lg_entry_eq]
  generalize (lg_sl ([.ref h0, .int v, .int x]) ++ List.replicate (4 - (lg_sl ([.ref h0, .int v, .int x])).length) Slot.unset).toArray = ls at hl ⊢
  have hl : lv_has ls 4 [(0, .ref h0), (1, .int v), (2, .int x)] := hl
  have hH0 : s.heap.size ≤ s.heap.size := Nat.le_refl _
  have htab := vx_table (x := ({ cls := "ChannelMachineLaw", name := "set", desc := "(LChannelMachine;II)I" } : Jvm.MethodName)) B (hts _ k_948)
  refine lv_aload_n hx hb d_La_set_0 rfl (lv_at hl 0 rfl) ?_
  refine lv_iload_n hx hb d_La_set_1 rfl (lv_at hl 1 rfl) ?_
  refine lv_iload_n hx hb d_La_set_2 rfl (lv_at hl 2 rfl) ?_
  have hPc := hP.sub (ws' := [(h0, .inr (5, [.ref rd, .ref mc, .int (-1)])), (mc, .inr (2, [.ref va, .ref ch, .ref gi, .ref bo, .ref qu, .ref sl, .ref sk, .int 0, .int 0, .int 0, .long 0])), (va, .inl (ar 0, 6, .inl (fun _ => 0)))]) [0, 1, 2] rfl
  have hDc := hD.sub (ws' := [(h0, .inr (5, [.ref rd, .ref mc, .int (-1)])), (mc, .inr (2, [.ref va, .ref ch, .ref gi, .ref bo, .ref qu, .ref sl, .ref sk, .int 0, .int 0, .int 0, .long 0])), (va, .inl (ar 0, 6, .inl (fun _ => 0)))]) [0, 1, 2] (by decide) rfl
  have hFc := va_free (wc := [(h0, .inr (5, [.ref rd, .ref mc, .int (-1)])), (mc, .inr (2, [.ref va, .ref ch, .ref gi, .ref bo, .ref qu, .ref sl, .ref sk, .int 0, .int 0, .int 0, .long 0])), (va, .inl (ar 0, 6, .inl (fun _ => 0)))]) hD hS hA [0, 1, 2] rfl
  refine vx_callv (vx_runV (As := [.int v, .int x]) (rest := []) ⟨hx, hb, hml, hown, hts⟩ (c_CM_set l hst dC dI ar N0 z h0 rd mc va ch gi bo qu sl sk (v) (x) s.heap.size) (cwV 2 hts (x_goodV k_949 k_950 k_951 k_1 k_952) rfl rfl rfl (by decide +kernel) ⟨Nat.le_of_ble_eq_true rfl, Nat.le_of_ble_eq_true rfl⟩) ⟨x_blind, va_recv hK hPc (ci := 5) (q0 := 0) rfl rfl, fun U hU9 hW => x_pre hU9 hW hPc hDc hU hZ hS hAN hN0⟩ rfl rfl hl.1 rfl (lv_room (Nat.le_of_ble_eq_true rfl)) d_La_set_3 ⟨Nat.le_of_ble_eq_true rfl, Nat.le_of_ble_eq_true rfl⟩) hS (fun q _ h => hFc q h) hFc (fun q h1 h2 => hFc q h2) (fun E ce q9 u t H1 locs ht hvm hpx hbx hz1 hk1 hS hce hcv hcl => ?_) (fun u1 t H1 locs ht hvm hw hB hz1 hk1 hS => ?_)
  · have hP1 : va_P (dC, dI) x_cl [] H1 := fun k q h => by simp at h
    have hD1 : va_D (va_A [(h0, .inr (5, [.ref rd, .ref mc, .int (-1)])), (mc, .inr (2, [.ref va, .ref ch, .ref gi, .ref bo, .ref qu, .ref sl, .ref sk, .int 0, .int 0, .int 0, .long 0])), (va, .inl (ar 0, 6, .inl (fun _ => 0)))] s.heap.size) [] := ⟨fun i j p q h => by simp at h, fun k q h => by simp at h⟩
    obtain ⟨hP, hD⟩ := va_join (wr := []) (w1 := []) hP hD [0, 1, 2] [] rfl rfl (by decide) (by decide) hk1 hFc hP1 hD1
    generalize H1 = H at hP hS hce ⊢
    have hP : va_P (dC, dI) x_cl [] H := hP
    have hD : va_D A [] := hD
    refine vx_widen (k := 1) (n := 6) (Nat.le_of_ble_eq_true rfl) (Nat.le_of_ble_eq_true rfl) ?_
    obtain rfl := hbx
    refine vx_catch hown [] ⟨0, 6, 9, 13⟩ [] htab (fun z h => by cases h) (by decide) (by decide) (hts _ k_221) (va_Nw.use rfl (hU.2.1 _ kn_232)) hce hcv hcl ?_
    refine lv_astore_n (lv' := [(3, .ref q9), (0, .ref h0), (1, .int v), (2, .int x)]) hx hb d_La_set_9 rfl hl (by decide) rfl (fun ls hl => ?_)
    refine lv_iconst (v := 1) hx hb d_La_set_10 (by decide) ?_
    refine W.widen (k := 1) (n := 6) (Nat.le_of_ble_eq_true rfl) (Nat.le_of_ble_eq_true rfl) ?_
    exact W.iret (v := 1) hx hb hr (fun t ht hW => ⟨⟨1, (), rfl, Or.inr ⟨hpx, rfl⟩, trivial⟩, hS.F ht⟩) hS.2.2 d_La_set_11
  · have hP1 : va_P (dC, dI) x_cl [] t.heap := fun k q h => by simp at h
    have hD1 : va_D (va_A [(h0, .inr (5, [.ref rd, .ref mc, .int (-1)])), (mc, .inr (2, [.ref va, .ref ch, .ref gi, .ref bo, .ref qu, .ref sl, .ref sk, .int 0, .int 0, .int 0, .long 0])), (va, .inl (ar 0, 6, .inl (fun _ => 0)))] s.heap.size) [] := ⟨fun i j p q h => by simp at h, fun k q h => by simp at h⟩
    rw [ht] at hP1
    obtain ⟨hP, hD⟩ := va_join (wr := []) (w1 := []) hP hD [0, 1, 2] [] rfl rfl (by decide) (by decide) hk1 hFc hP1 hD1
    generalize H1 = H at hP hS ⊢
    have hP : va_P (dC, dI) x_cl [] H := hP
    have hD : va_D A [] := hD
    refine W.widen (k := 1) (n := 6) (Nat.le_of_ble_eq_true rfl) (Nat.le_of_ble_eq_true rfl) ?_
    refine lv_goto (tgt := 12) hx hb d_La_set_6 (by decide) ?_
    refine lv_iconst (v := 0) hx hb d_La_set_12 (by decide) ?_
    refine W.widen (k := 1) (n := 6) (Nat.le_of_ble_eq_true rfl) (Nat.le_of_ble_eq_true rfl) ?_
    exact W.iret (v := 0) hx hb hr (fun t ht hW => ⟨⟨0, (), rfl, Or.inl ⟨hw, rfl⟩, trivial⟩, hS.F ht⟩) hS.2.2 d_La_set_13
set_option maxHeartbeats 4000000 in
set_option maxRecDepth 100000 in
theorem c_La_give (l : Launch) (hst : l.stackTraces = false) (dC : Nat → ClassId) (dI : Nat → Nat → Nat) (ar : Nat → ClassId) (N0 : Nat) (z : Nat → Nat) (ot : Nat) (h0 rd mc va ch gi bo qu sl sk : Nat) (x : Int32) (sz : Nat) : Met l ({ cls := "ChannelMachineLaw", name := "give", desc := "(LChannelMachine;I[J)I" } : Jvm.MethodName) ((Jvm.Cond.codeWith ({ cls := "ChannelMachineLaw", name := "give", desc := "(LChannelMachine;I[J)I" } : Jvm.MethodName) method_6_code (4 : Nat) (Option.some Jvm.ClassFile.FieldType.int) [((0 : Nat), (9 : Nat), (12 : Nat), (15 : Nat))]) :: x_T) ({ frames := 7, cells := 1, slots := 6, locals := 103 }) (x_Pc (dC, dI) ar N0 z [(ot, .inl (ar 2, 1, .inr (.inl (fun _ => 0)))), (h0, .inr (5, [.ref rd, .ref mc, .int (-1)])), (mc, .inr (2, [.ref va, .ref ch, .ref gi, .ref bo, .ref qu, .ref sl, .ref sk, .int 0, .int 0, .int 0, .long 0]))] sz [.ref h0, .int x, .ref ot]) (va_Qi (fun (r : Int32) (u : Nat → Int64) => r = 1) (fun u t => va_P (dC, dI) x_cl [(ot, .inl (ar 2, 1, .inr (.inl u)))] t.heap ∧ va_D (va_A [(ot, .inl (ar 2, 1, .inr (.inl (fun _ => 0)))), (h0, .inr (5, [.ref rd, .ref mc, .int (-1)])), (mc, .inr (2, [.ref va, .ref ch, .ref gi, .ref bo, .ref qu, .ref sl, .ref sk, .int 0, .int 0, .int 0, .long 0]))] sz) [(ot, .inl (ar 2, 1, .inr (.inl u)))]) (va_A [(ot, .inl (ar 2, 1, .inr (.inl (fun _ => 0)))), (h0, .inr (5, [.ref rd, .ref mc, .int (-1)])), (mc, .inr (2, [.ref va, .ref ch, .ref gi, .ref bo, .ref qu, .ref sl, .ref sk, .int 0, .int 0, .int 0, .long 0]))] sz)) 1 6 (va_A [(ot, .inl (ar 2, 1, .inr (.inl (fun _ => 0)))), (h0, .inr (5, [.ref rd, .ref mc, .int (-1)])), (mc, .inr (2, [.ref va, .ref ch, .ref gi, .ref bo, .ref qu, .ref sl, .ref sk, .int 0, .int 0, .int 0, .long 0]))] sz) := by
  refine va_MetW (cc := method_6_code) (maxL := 4) (ret := (some .int)) (by decide) rfl ?_
  intro p e s m args below meth c s₁ B hml hv
  obtain ⟨rfl, hsz, hN0, hP, hU, hZ, hD0⟩ := hv
  have hK := hU.1
  have hx := B.exec
  have hb := B.bytes
  have hr := B.returns
  have hts : ∀ w ∈ x_T, w.before ([.ref h0, .int x, .ref ot] : List Value).toArray s = true := fun w h => atoms_spec (ws := (Jvm.Cond.codeWith ({ cls := "ChannelMachineLaw", name := "give", desc := "(LChannelMachine;I[J)I" } : Jvm.MethodName) method_6_code (4 : Nat) (Option.some Jvm.ClassFile.FieldType.int) [((0 : Nat), (9 : Nat), (12 : Nat), (15 : Nat))]) :: x_T) B.pre w (List.mem_cons_of_mem _ h)
  have hown : s.vm.findClass "ChannelMachineLaw" = some m.cls := findClass_of_methodNamed B.named
  have hlocks := B.notSynchronized
  subst hsz
  have hD := hD0.self (sz := s.heap.size)
  have hAN := x_AN hD0 hN0
  generalize hAe : va_A [(ot, .inl (ar 2, 1, .inr (.inl (fun _ => 0)))), (h0, .inr (5, [.ref rd, .ref mc, .int (-1)])), (mc, .inr (2, [.ref va, .ref ch, .ref gi, .ref bo, .ref qu, .ref sl, .ref sk, .int 0, .int 0, .int 0, .long 0]))] s.heap.size = A at hD hAN ⊢
  have hA : ∀ q : Nat, s.heap.size ≤ q → A q := fun q h => by rw [← hAe]; exact Or.inr h
  have hS : va_S A s.heap s.heap [] := va_S.rf
  have hP : va_P (dC, dI) x_cl [(ot, .inl (ar 2, 1, .inr (.inl (fun _ => 0)))), (h0, .inr (5, [.ref rd, .ref mc, .int (-1)])), (mc, .inr (2, [.ref va, .ref ch, .ref gi, .ref bo, .ref qu, .ref sl, .ref sk, .int 0, .int 0, .int 0, .long 0]))] s.heap := hP
  have hl := lv_entry ([.ref h0, .int x, .ref ot]) (n := 4) (Nat.le_of_ble_eq_true rfl)
  rw [lg_entry_eq]
  generalize (lg_sl ([.ref h0, .int x, .ref ot]) ++ List.replicate (4 - (lg_sl ([.ref h0, .int x, .ref ot])).length) Slot.unset).toArray = ls at hl ⊢
  have hl : lv_has ls 4 [(0, .ref h0), (1, .int x), (2, .ref ot)] := hl
  have hH0 : s.heap.size ≤ s.heap.size := Nat.le_refl _
  have htab := vx_table (x := ({ cls := "ChannelMachineLaw", name := "give", desc := "(LChannelMachine;I[J)I" } : Jvm.MethodName)) B (hts _ k_899)
  refine lv_aload_n hx hb d_La_give_0 rfl (lv_at hl 2 rfl) ?_
  refine lv_iconst (v := 0) hx hb d_La_give_1 (by decide) ?_
  refine lv_aload_n hx hb d_La_give_2 rfl (lv_at hl 0 rfl) ?_
  refine lv_iload_n hx hb d_La_give_3 rfl (lv_at hl 1 rfl) ?_
  have hPc := hP.sub (ws' := [(h0, .inr (5, [.ref rd, .ref mc, .int (-1)])), (mc, .inr (2, [.ref va, .ref ch, .ref gi, .ref bo, .ref qu, .ref sl, .ref sk, .int 0, .int 0, .int 0, .long 0]))]) [1, 2] rfl
  have hDc := hD.sub (ws' := [(h0, .inr (5, [.ref rd, .ref mc, .int (-1)])), (mc, .inr (2, [.ref va, .ref ch, .ref gi, .ref bo, .ref qu, .ref sl, .ref sk, .int 0, .int 0, .int 0, .long 0]))]) [1, 2] (by decide) rfl
  have hFc := va_free (wc := [(h0, .inr (5, [.ref rd, .ref mc, .int (-1)])), (mc, .inr (2, [.ref va, .ref ch, .ref gi, .ref bo, .ref qu, .ref sl, .ref sk, .int 0, .int 0, .int 0, .long 0]))]) hD hS hA [1, 2] rfl
  refine vx_calli (vx_runV (As := [.int x]) (rest := [.int 0, .ref ot]) ⟨hx, hb, hml, hown, hts⟩ (c_CM_give l hst dC dI ar N0 z h0 rd mc va ch gi bo qu sl sk (x) s.heap.size) (cwV 1 hts (x_goodV k_900 k_901 k_902 k_1 k_903) rfl rfl rfl (by decide +kernel) ⟨Nat.le_of_ble_eq_true rfl, Nat.le_of_ble_eq_true rfl⟩) ⟨x_blind, va_recv hK hPc (ci := 5) (q0 := 0) rfl rfl, fun U hU9 hW => x_pre hU9 hW hPc hDc hU hZ hS hAN hN0⟩ rfl rfl hl.1 rfl (lv_room (Nat.le_of_ble_eq_true rfl)) d_La_give_4 ⟨Nat.le_of_ble_eq_true rfl, Nat.le_of_ble_eq_true rfl⟩) hS (fun q _ h => hFc q h) hFc (fun q h1 h2 => hFc q h2) (fun E ce q9 u t H1 locs ht hvm hpx hbx hz1 hk1 hS hce hcv hcl => ?_) (fun r1 u2 t H1 locs ht hvm hw hB hz1 hk1 hS => ?_)
  · have hP1 : va_P (dC, dI) x_cl [] H1 := fun k q h => by simp at h
    have hD1 : va_D (va_A [(h0, .inr (5, [.ref rd, .ref mc, .int (-1)])), (mc, .inr (2, [.ref va, .ref ch, .ref gi, .ref bo, .ref qu, .ref sl, .ref sk, .int 0, .int 0, .int 0, .long 0]))] s.heap.size) [] := ⟨fun i j p q h => by simp at h, fun k q h => by simp at h⟩
    obtain ⟨hP, hD⟩ := va_join (wr := [(ot, .inl (ar 2, 1, .inr (.inl (fun _ => 0))))]) (w1 := []) hP hD [1, 2] [0] rfl rfl (by decide) (by decide) hk1 hFc hP1 hD1
    generalize H1 = H at hP hS hce ⊢
    have hP : va_P (dC, dI) x_cl [(ot, .inl (ar 2, 1, .inr (.inl (fun _ => 0))))] H := hP
    have hD : va_D A [(ot, .inl (ar 2, 1, .inr (.inl (fun _ => 0))))] := hD
    refine vx_widen (k := 1) (n := 6) (Nat.le_of_ble_eq_true rfl) (Nat.le_of_ble_eq_true rfl) ?_
    obtain rfl := hbx
    refine vx_catch hown [] ⟨0, 9, 12, 15⟩ [] htab (fun z h => by cases h) (by decide) (by decide) (hts _ k_222) (va_Nw.use rfl (hU.2.1 _ kn_301)) hce hcv hcl ?_
    refine lv_astore_n (lv' := [(3, .ref q9), (0, .ref h0), (1, .int x), (2, .ref ot)]) hx hb d_La_give_12 rfl hl (by decide) rfl (fun ls hl => ?_)
    refine lv_iconst (v := 1) hx hb d_La_give_13 (by decide) ?_
    refine W.widen (k := 1) (n := 6) (Nat.le_of_ble_eq_true rfl) (Nat.le_of_ble_eq_true rfl) ?_
    exact W.iret (v := 1) hx hb hr (fun t ht hW => ⟨⟨1, (fun _ => 0), rfl, rfl, ⟨by rw [ht]; exact hP.sub (ws' := [(ot, .inl (ar 2, 1, .inr (.inl (fun _ => 0))))]) [0] rfl, hD.sub (ws' := [(ot, .inl (ar 2, 1, .inr (.inl (fun _ => 0))))]) [0] (by decide) rfl⟩⟩, hS.F ht⟩) hS.2.2 d_La_give_14
  · exact hw.elim
set_option maxHeartbeats 4000000 in
set_option maxRecDepth 100000 in
theorem c_La_run (l : Launch) (hst : l.stackTraces = false) (dC : Nat → ClassId) (dI : Nat → Nat → Nat) (ar : Nat → ClassId) (N0 : Nat) (z : Nat → Nat) (ot : Nat) (h0 rd mc va ch gi bo qu sl sk : Nat) (n : Int32) (sz : Nat) : Met l ({ cls := "ChannelMachineLaw", name := "run", desc := "(LChannelMachine;I[J)I" } : Jvm.MethodName) ((Jvm.Cond.codeWith ({ cls := "ChannelMachineLaw", name := "run", desc := "(LChannelMachine;I[J)I" } : Jvm.MethodName) method_5_code (4 : Nat) (Option.some Jvm.ClassFile.FieldType.int) [((0 : Nat), (9 : Nat), (12 : Nat), (13 : Nat)), ((0 : Nat), (9 : Nat), (15 : Nat), (15 : Nat)), ((0 : Nat), (9 : Nat), (18 : Nat), (25 : Nat))]) :: x_T) ({ frames := 7, cells := 1, slots := 6, locals := 103 }) (x_Pc (dC, dI) ar N0 z [(ot, .inl (ar 2, 1, .inr (.inl (fun _ => 0)))), (h0, .inr (5, [.ref rd, .ref mc, .int (-1)])), (mc, .inr (2, [.ref va, .ref ch, .ref gi, .ref bo, .ref qu, .ref sl, .ref sk, .int 0, .int 0, .int 0, .long 0]))] sz [.ref h0, .int n, .ref ot]) (va_Qi (fun (r : Int32) (u : Nat → Int64) => ((n < 1 ∨ ¬ n ≤ 200) ∧ r = 1) ∨ ((¬ n < 1 ∧ n ≤ 200) ∧ r = 2)) (fun u t => va_P (dC, dI) x_cl [(ot, .inl (ar 2, 1, .inr (.inl u)))] t.heap ∧ va_D (va_A [(ot, .inl (ar 2, 1, .inr (.inl (fun _ => 0)))), (h0, .inr (5, [.ref rd, .ref mc, .int (-1)])), (mc, .inr (2, [.ref va, .ref ch, .ref gi, .ref bo, .ref qu, .ref sl, .ref sk, .int 0, .int 0, .int 0, .long 0]))] sz) [(ot, .inl (ar 2, 1, .inr (.inl u)))]) (va_A [(ot, .inl (ar 2, 1, .inr (.inl (fun _ => 0)))), (h0, .inr (5, [.ref rd, .ref mc, .int (-1)])), (mc, .inr (2, [.ref va, .ref ch, .ref gi, .ref bo, .ref qu, .ref sl, .ref sk, .int 0, .int 0, .int 0, .long 0]))] sz)) 1 6 (va_A [(ot, .inl (ar 2, 1, .inr (.inl (fun _ => 0)))), (h0, .inr (5, [.ref rd, .ref mc, .int (-1)])), (mc, .inr (2, [.ref va, .ref ch, .ref gi, .ref bo, .ref qu, .ref sl, .ref sk, .int 0, .int 0, .int 0, .long 0]))] sz) := by
  refine va_MetW (cc := method_5_code) (maxL := 4) (ret := (some .int)) (by decide) rfl ?_
  intro p e s m args below meth c s₁ B hml hv
  obtain ⟨rfl, hsz, hN0, hP, hU, hZ, hD0⟩ := hv
  have hK := hU.1
  have hx := B.exec
  have hb := B.bytes
  have hr := B.returns
  have hts : ∀ w ∈ x_T, w.before ([.ref h0, .int n, .ref ot] : List Value).toArray s = true := fun w h => atoms_spec (ws := (Jvm.Cond.codeWith ({ cls := "ChannelMachineLaw", name := "run", desc := "(LChannelMachine;I[J)I" } : Jvm.MethodName) method_5_code (4 : Nat) (Option.some Jvm.ClassFile.FieldType.int) [((0 : Nat), (9 : Nat), (12 : Nat), (13 : Nat)), ((0 : Nat), (9 : Nat), (15 : Nat), (15 : Nat)), ((0 : Nat), (9 : Nat), (18 : Nat), (25 : Nat))]) :: x_T) B.pre w (List.mem_cons_of_mem _ h)
  have hown : s.vm.findClass "ChannelMachineLaw" = some m.cls := findClass_of_methodNamed B.named
  have hlocks := B.notSynchronized
  subst hsz
  have hD := hD0.self (sz := s.heap.size)
  have hAN := x_AN hD0 hN0
  generalize hAe : va_A [(ot, .inl (ar 2, 1, .inr (.inl (fun _ => 0)))), (h0, .inr (5, [.ref rd, .ref mc, .int (-1)])), (mc, .inr (2, [.ref va, .ref ch, .ref gi, .ref bo, .ref qu, .ref sl, .ref sk, .int 0, .int 0, .int 0, .long 0]))] s.heap.size = A at hD hAN ⊢
  have hA : ∀ q : Nat, s.heap.size ≤ q → A q := fun q h => by rw [← hAe]; exact Or.inr h
  have hS : va_S A s.heap s.heap [] := va_S.rf
  have hP : va_P (dC, dI) x_cl [(ot, .inl (ar 2, 1, .inr (.inl (fun _ => 0)))), (h0, .inr (5, [.ref rd, .ref mc, .int (-1)])), (mc, .inr (2, [.ref va, .ref ch, .ref gi, .ref bo, .ref qu, .ref sl, .ref sk, .int 0, .int 0, .int 0, .long 0]))] s.heap := hP
  have hl := lv_entry ([.ref h0, .int n, .ref ot]) (n := 4) (Nat.le_of_ble_eq_true rfl)
  rw [lg_entry_eq]
  generalize (lg_sl ([.ref h0, .int n, .ref ot]) ++ List.replicate (4 - (lg_sl ([.ref h0, .int n, .ref ot])).length) Slot.unset).toArray = ls at hl ⊢
  have hl : lv_has ls 4 [(0, .ref h0), (1, .int n), (2, .ref ot)] := hl
  have hH0 : s.heap.size ≤ s.heap.size := Nat.le_refl _
  have htab := vx_table (x := ({ cls := "ChannelMachineLaw", name := "run", desc := "(LChannelMachine;I[J)I" } : Jvm.MethodName)) B (hts _ k_709)
  refine lv_aload_n hx hb d_La_run_0 rfl (lv_at hl 2 rfl) ?_
  refine lv_iconst (v := 0) hx hb d_La_run_1 (by decide) ?_
  refine lv_aload_n hx hb d_La_run_2 rfl (lv_at hl 0 rfl) ?_
  refine lv_iload_n hx hb d_La_run_3 rfl (lv_at hl 1 rfl) ?_
  have hPc := hP.sub (ws' := [(h0, .inr (5, [.ref rd, .ref mc, .int (-1)])), (mc, .inr (2, [.ref va, .ref ch, .ref gi, .ref bo, .ref qu, .ref sl, .ref sk, .int 0, .int 0, .int 0, .long 0]))]) [1, 2] rfl
  have hDc := hD.sub (ws' := [(h0, .inr (5, [.ref rd, .ref mc, .int (-1)])), (mc, .inr (2, [.ref va, .ref ch, .ref gi, .ref bo, .ref qu, .ref sl, .ref sk, .int 0, .int 0, .int 0, .long 0]))]) [1, 2] (by decide) rfl
  have hFc := va_free (wc := [(h0, .inr (5, [.ref rd, .ref mc, .int (-1)])), (mc, .inr (2, [.ref va, .ref ch, .ref gi, .ref bo, .ref qu, .ref sl, .ref sk, .int 0, .int 0, .int 0, .long 0]))]) hD hS hA [1, 2] rfl
  refine vx_calli (vx_runV (As := [.int n]) (rest := [.int 0, .ref ot]) ⟨hx, hb, hml, hown, hts⟩ (c_CM_run l hst dC dI ar N0 z h0 rd mc va ch gi bo qu sl sk (n) s.heap.size) (cwV 1 hts (x_goodV k_711 k_712 k_713 k_1 k_714) rfl rfl rfl (by decide +kernel) ⟨Nat.le_of_ble_eq_true rfl, Nat.le_of_ble_eq_true rfl⟩) ⟨x_blind, va_recv hK hPc (ci := 5) (q0 := 0) rfl rfl, fun U hU9 hW => x_pre hU9 hW hPc hDc hU hZ hS hAN hN0⟩ rfl rfl hl.1 rfl (lv_room (Nat.le_of_ble_eq_true rfl)) d_La_run_4 ⟨Nat.le_of_ble_eq_true rfl, Nat.le_of_ble_eq_true rfl⟩) hS (fun q _ h => hFc q h) hFc (fun q h1 h2 => hFc q h2) (fun E ce q9 u t H1 locs ht hvm hpx hbx hz1 hk1 hS hce hcv hcl => ?_) (fun r1 u2 t H1 locs ht hvm hw hB hz1 hk1 hS => ?_)
  · have hP1 : va_P (dC, dI) x_cl [] H1 := fun k q h => by simp at h
    have hD1 : va_D (va_A [(h0, .inr (5, [.ref rd, .ref mc, .int (-1)])), (mc, .inr (2, [.ref va, .ref ch, .ref gi, .ref bo, .ref qu, .ref sl, .ref sk, .int 0, .int 0, .int 0, .long 0]))] s.heap.size) [] := ⟨fun i j p q h => by simp at h, fun k q h => by simp at h⟩
    obtain ⟨hP, hD⟩ := va_join (wr := [(ot, .inl (ar 2, 1, .inr (.inl (fun _ => 0))))]) (w1 := []) hP hD [1, 2] [0] rfl rfl (by decide) (by decide) hk1 hFc hP1 hD1
    generalize H1 = H at hP hS hce ⊢
    have hP : va_P (dC, dI) x_cl [(ot, .inl (ar 2, 1, .inr (.inl (fun _ => 0))))] H := hP
    have hD : va_D A [(ot, .inl (ar 2, 1, .inr (.inl (fun _ => 0))))] := hD
    refine vx_widen (k := 1) (n := 6) (Nat.le_of_ble_eq_true rfl) (Nat.le_of_ble_eq_true rfl) ?_
    rcases hbx with ⟨rfl, h9⟩ | ⟨rfl, h9⟩
    · refine vx_catch hown [] ⟨0, 9, 12, 13⟩ [⟨0, 9, 15, 15⟩, ⟨0, 9, 18, 25⟩] htab (fun z h => by cases h) (by decide) (by decide) (hts _ k_221) (va_Nw.use rfl (hU.2.1 _ kn_232)) hce hcv hcl ?_
      refine lv_astore_n (lv' := [(3, .ref q9), (0, .ref h0), (1, .int n), (2, .ref ot)]) hx hb d_La_run_12 rfl hl (by decide) rfl (fun ls hl => ?_)
      refine lv_iconst (v := 1) hx hb d_La_run_13 (by decide) ?_
      refine W.widen (k := 1) (n := 6) (Nat.le_of_ble_eq_true rfl) (Nat.le_of_ble_eq_true rfl) ?_
      exact W.iret (v := 1) hx hb hr (fun t ht hW => ⟨⟨1, (fun _ => 0), rfl, Or.inl ⟨h9, rfl⟩, ⟨by rw [ht]; exact hP.sub (ws' := [(ot, .inl (ar 2, 1, .inr (.inl (fun _ => 0))))]) [0] rfl, hD.sub (ws' := [(ot, .inl (ar 2, 1, .inr (.inl (fun _ => 0))))]) [0] (by decide) rfl⟩⟩, hS.F ht⟩) hS.2.2 d_La_run_14
    · refine vx_catch hown [⟨0, 9, 12, 13⟩] ⟨0, 9, 15, 15⟩ [⟨0, 9, 18, 25⟩] htab (fun z h => by rcases List.mem_singleton.mp h with rfl; exact Or.inr ⟨by decide, "java/lang/IllegalArgumentException", hts _ k_221, hU.2.2.2.2.2⟩) (by decide) (by decide) (hts _ k_222) (va_Nw.use rfl (hU.2.1 _ kn_301)) hce hcv hcl ?_
      refine lv_astore_n (lv' := [(3, .ref q9), (0, .ref h0), (1, .int n), (2, .ref ot)]) hx hb d_La_run_15 rfl hl (by decide) rfl (fun ls hl => ?_)
      refine lv_iconst (v := 2) hx hb d_La_run_16 (by decide) ?_
      refine W.widen (k := 1) (n := 6) (Nat.le_of_ble_eq_true rfl) (Nat.le_of_ble_eq_true rfl) ?_
      exact W.iret (v := 2) hx hb hr (fun t ht hW => ⟨⟨2, (fun _ => 0), rfl, Or.inr ⟨h9, rfl⟩, ⟨by rw [ht]; exact hP.sub (ws' := [(ot, .inl (ar 2, 1, .inr (.inl (fun _ => 0))))]) [0] rfl, hD.sub (ws' := [(ot, .inl (ar 2, 1, .inr (.inl (fun _ => 0))))]) [0] (by decide) rfl⟩⟩, hS.F ht⟩) hS.2.2 d_La_run_17
  · exact hw.elim
set_option maxHeartbeats 4000000 in
set_option maxRecDepth 100000 in
theorem c_CM_channel (l : Launch) (hst : l.stackTraces = false) (dC : Nat → ClassId) (dI : Nat → Nat → Nat) (ar : Nat → ClassId) (N0 : Nat) (z : Nat → Nat) (h0 rd mc va ch gi bo qu sl sk : Nat) (y0 y1 y2 y3 y4 y5 : Nat) (g : Nat → Option Nat) (v : Int32) (sz : Nat) (g0 : g 0 = some y0) (g1 : g 1 = some y1) (g2 : g 2 = some y2) (g3 : g 3 = some y3) (g4 : g 4 = some y4) (g5 : g 5 = some y5) : vx_Met l ({ cls := "ChannelMachine", name := "channel", desc := "(I)I" } : Jvm.MethodName) ((Jvm.Cond.code ({ cls := "ChannelMachine", name := "channel", desc := "(I)I" } : Jvm.MethodName) prog_1_method_10_code (3 : Nat) (Option.some Jvm.ClassFile.FieldType.int)) :: x_T) ({ frames := 6, cells := 1, slots := 6, locals := 82 }) (x_Pc (dC, dI) ar N0 z [(h0, .inr (5, [.ref rd, .ref mc, .int (-1)])), (mc, .inr (2, [.ref va, .ref ch, .ref gi, .ref bo, .ref qu, .ref sl, .ref sk, .int 0, .int 0, .int 0, .long 0])), (ch, .inl (ar 4, 6, .inr (.inr (.inr (.inr g))))), (y0, .inr (1, [.null, .null, .int (-1), .null])), (y1, .inr (1, [.null, .null, .int (-1), .null])), (y2, .inr (1, [.null, .null, .int (-1), .null])), (y3, .inr (1, [.null, .null, .int (-1), .null])), (y4, .inr (1, [.null, .null, .int (-1), .null])), (y5, .inr (1, [.null, .null, .int (-1), .null]))] sz [.ref h0, .int v]) (va_Qi (fun (r : Int32) (u : Unit) => (¬ v < 0 ∧ v < 6) ∧ r = 0) (fun u t => True) (va_A [(h0, .inr (5, [.ref rd, .ref mc, .int (-1)])), (mc, .inr (2, [.ref va, .ref ch, .ref gi, .ref bo, .ref qu, .ref sl, .ref sk, .int 0, .int 0, .int 0, .long 0])), (ch, .inl (ar 4, 6, .inr (.inr (.inr (.inr g))))), (y0, .inr (1, [.null, .null, .int (-1), .null])), (y1, .inr (1, [.null, .null, .int (-1), .null])), (y2, .inr (1, [.null, .null, .int (-1), .null])), (y3, .inr (1, [.null, .null, .int (-1), .null])), (y4, .inr (1, [.null, .null, .int (-1), .null])), (y5, .inr (1, [.null, .null, .int (-1), .null]))] sz)) (vx_X (fun (_ : Unit) => v < 0 ∨ ¬ v < 6) (fun E _ t => E = "java/lang/IllegalArgumentException") (va_A [(h0, .inr (5, [.ref rd, .ref mc, .int (-1)])), (mc, .inr (2, [.ref va, .ref ch, .ref gi, .ref bo, .ref qu, .ref sl, .ref sk, .int 0, .int 0, .int 0, .long 0])), (ch, .inl (ar 4, 6, .inr (.inr (.inr (.inr g))))), (y0, .inr (1, [.null, .null, .int (-1), .null])), (y1, .inr (1, [.null, .null, .int (-1), .null])), (y2, .inr (1, [.null, .null, .int (-1), .null])), (y3, .inr (1, [.null, .null, .int (-1), .null])), (y4, .inr (1, [.null, .null, .int (-1), .null])), (y5, .inr (1, [.null, .null, .int (-1), .null]))] sz)) 1 6 (va_A [(h0, .inr (5, [.ref rd, .ref mc, .int (-1)])), (mc, .inr (2, [.ref va, .ref ch, .ref gi, .ref bo, .ref qu, .ref sl, .ref sk, .int 0, .int 0, .int 0, .long 0])), (ch, .inl (ar 4, 6, .inr (.inr (.inr (.inr g))))), (y0, .inr (1, [.null, .null, .int (-1), .null])), (y1, .inr (1, [.null, .null, .int (-1), .null])), (y2, .inr (1, [.null, .null, .int (-1), .null])), (y3, .inr (1, [.null, .null, .int (-1), .null])), (y4, .inr (1, [.null, .null, .int (-1), .null])), (y5, .inr (1, [.null, .null, .int (-1), .null]))] sz) := by
  refine vx_ofW (cc := prog_1_method_10_code) (maxL := 3) (ret := (some .int)) (by decide) rfl ?_
  intro p e s m args below meth c s₁ B hml htb hv
  obtain ⟨rfl, hsz, hN0, hP, hU, hZ, hD0⟩ := hv
  have hK := hU.1
  have hx := B.exec
  have hb := B.bytes
  have hr := B.returns
  have hts : ∀ w ∈ x_T, w.before ([.ref h0, .int v] : List Value).toArray s = true := fun w h => atoms_spec (ws := (Jvm.Cond.code ({ cls := "ChannelMachine", name := "channel", desc := "(I)I" } : Jvm.MethodName) prog_1_method_10_code (3 : Nat) (Option.some Jvm.ClassFile.FieldType.int)) :: x_T) B.pre w (List.mem_cons_of_mem _ h)
  have hown : s.vm.findClass "ChannelMachine" = some m.cls := findClass_of_methodNamed B.named
  have hlocks := B.notSynchronized
  subst hsz
  have hD := hD0.self (sz := s.heap.size)
  have hAN := x_AN hD0 hN0
  generalize hAe : va_A [(h0, .inr (5, [.ref rd, .ref mc, .int (-1)])), (mc, .inr (2, [.ref va, .ref ch, .ref gi, .ref bo, .ref qu, .ref sl, .ref sk, .int 0, .int 0, .int 0, .long 0])), (ch, .inl (ar 4, 6, .inr (.inr (.inr (.inr g))))), (y0, .inr (1, [.null, .null, .int (-1), .null])), (y1, .inr (1, [.null, .null, .int (-1), .null])), (y2, .inr (1, [.null, .null, .int (-1), .null])), (y3, .inr (1, [.null, .null, .int (-1), .null])), (y4, .inr (1, [.null, .null, .int (-1), .null])), (y5, .inr (1, [.null, .null, .int (-1), .null]))] s.heap.size = A at hD hAN ⊢
  have hA : ∀ q : Nat, s.heap.size ≤ q → A q := fun q h => by rw [← hAe]; exact Or.inr h
  have hS : va_S A s.heap s.heap [] := va_S.rf
  have hP : va_P (dC, dI) x_cl [(h0, .inr (5, [.ref rd, .ref mc, .int (-1)])), (mc, .inr (2, [.ref va, .ref ch, .ref gi, .ref bo, .ref qu, .ref sl, .ref sk, .int 0, .int 0, .int 0, .long 0])), (ch, .inl (ar 4, 6, .inr (.inr (.inr (.inr g))))), (y0, .inr (1, [.null, .null, .int (-1), .null])), (y1, .inr (1, [.null, .null, .int (-1), .null])), (y2, .inr (1, [.null, .null, .int (-1), .null])), (y3, .inr (1, [.null, .null, .int (-1), .null])), (y4, .inr (1, [.null, .null, .int (-1), .null])), (y5, .inr (1, [.null, .null, .int (-1), .null]))] s.heap := hP
  have hl := lv_entry ([.ref h0, .int v]) (n := 3) (Nat.le_of_ble_eq_true rfl)
  rw [lg_entry_eq]
  generalize (lg_sl ([.ref h0, .int v]) ++ List.replicate (3 - (lg_sl ([.ref h0, .int v])).length) Slot.unset).toArray = ls at hl ⊢
  have hl : lv_has ls 3 [(0, .ref h0), (1, .int v)] := hl
  have hH0 : s.heap.size ≤ s.heap.size := Nat.le_refl _
  refine lv_iload_n hx hb d_CM_channel_0 rfl (lv_at hl 1 rfl) ?_
  refine lv_if_lt (tgt := 10) hx hb d_CM_channel_1 (by decide) (fun c1 => ?_) (fun c1 => ?_)
  · exact x_throw (A := A) hx hb hst (own := "ChannelMachine") (cls := "java/lang/IllegalArgumentException") (text := "not a channel") (ik := 31) (is := 128) (ic := 35) hown k_230 k_13 (by decide) x_tChannelMachine_35 (by decide +kernel) rfl hts hU hZ hAN hS (by rw [hml]; exact hl.1) d_CM_channel_10 d_CM_channel_13 d_CM_channel_14 d_CM_channel_16 d_CM_channel_19 htb (Nat.le_of_ble_eq_true rfl) (Nat.le_of_ble_eq_true rfl) (Nat.le_of_ble_eq_true rfl) (Nat.le_of_ble_eq_true rfl) hlocks (fun t h1 h2 h3 h4 => ⟨(), Or.inl c1, rfl, h4⟩) hS.2.2 (Nat.le_of_ble_eq_true rfl) (Nat.le_of_ble_eq_true rfl)
  · refine lv_iload_n hx hb d_CM_channel_4 rfl (lv_at hl 1 rfl) ?_
    refine lv_bipush (v := 6) hx hb d_CM_channel_5 (by decide) ?_
    refine lv_icmp_lt (tgt := 20) hx hb d_CM_channel_7 (by decide) (fun c2 => ?_) (fun c2 => ?_)
    · refine lv_aload_n hx hb d_CM_channel_20 rfl (lv_at hl 0 rfl) ?_
      refine va_get (D := (dC, dI)) (ci := 5) (v := .ref mc) (C := "ChannelMachine") (T := F_CM) (N := 3) hx hb hts i_CM hown hK hP 0 rfl rfl 1 (by decide) (hts _ k_195) (fun _ h9 => h9) rfl d_CM_channel_21 ?_
      refine va_getN (D := (dC, dI)) (ci := 2) (v := .ref ch) (C := "ChannelMachine$Machine") (T := F_Machine) (N := 11) hx hb hts i_Machine hown hK hP 1 rfl rfl 1 (by decide) (hU.2.1 _ kn_153) (fun _ h9 => h9) rfl d_CM_channel_24 ?_
      refine lv_iload_n hx hb d_CM_channel_27 rfl (lv_at hl 1 rfl) ?_
      rcases x_6 c1 c2 with rfl | rfl | rfl | rfl | rfl | rfl
      · refine va_aldq hx hb hK hP 2 4 rfl rfl (by unfold vp_in; decide) d_CM_channel_28 ?_
        refine W.eq (g2 := F0 m 29 ls [.ref y0]) (by rw [show Int32.toNatClampNeg (0 : Int32) = 0 from by decide, g0]; rfl) ?_
        refine lv_astore_n (lv' := [(2, .ref y0), (0, .ref h0), (1, .int 0)]) hx hb d_CM_channel_29 rfl hl (by decide) rfl (fun ls hl => ?_)
        refine lv_aload_n hx hb d_CM_channel_30 rfl (lv_at hl 0 rfl) ?_
        refine va_getN (D := (dC, dI)) (ci := 1) (v := .null) (C := "ChannelMachine$Channel") (T := F_Channel) (N := 4) hx hb hts i_Channel hown hK hP 3 rfl rfl 1 (by decide) (hU.2.1 _ kn_136) (fun _ h9 => h9) rfl d_CM_channel_31 ?_
        refine lv_ifnullN (tgt := 39) hx hb d_CM_channel_34 (by decide) ?_
        refine lv_aload_n hx hb d_CM_channel_39 rfl (lv_at hl 0 rfl) ?_
        refine va_getN (D := (dC, dI)) (ci := 1) (v := .null) (C := "ChannelMachine$Channel") (T := F_Channel) (N := 4) hx hb hts i_Channel hown hK hP 3 rfl rfl 0 (by decide) (hU.2.1 _ kn_133) (fun _ h9 => h9) rfl d_CM_channel_40 ?_
        refine lv_ifnullN (tgt := 50) hx hb d_CM_channel_43 (by decide) ?_
        refine lv_iconst (v := 0) hx hb d_CM_channel_50 (by decide) ?_
        refine vx_ret ?_
        refine W.widen (k := 1) (n := 6) (Nat.le_of_ble_eq_true rfl) (Nat.le_of_ble_eq_true rfl) ?_
        exact W.iret (v := 0) hx hb hr (fun t ht hW => ⟨⟨0, (), rfl, ⟨⟨by decide, by decide⟩, rfl⟩, trivial⟩, hS.F ht⟩) hS.2.2 d_CM_channel_51
      · refine va_aldq hx hb hK hP 2 4 rfl rfl (by unfold vp_in; decide) d_CM_channel_28 ?_
        refine W.eq (g2 := F0 m 29 ls [.ref y1]) (by rw [show Int32.toNatClampNeg (1 : Int32) = 1 from by decide, g1]; rfl) ?_
        refine lv_astore_n (lv' := [(2, .ref y1), (0, .ref h0), (1, .int 1)]) hx hb d_CM_channel_29 rfl hl (by decide) rfl (fun ls hl => ?_)
        refine lv_aload_n hx hb d_CM_channel_30 rfl (lv_at hl 0 rfl) ?_
        refine va_getN (D := (dC, dI)) (ci := 1) (v := .null) (C := "ChannelMachine$Channel") (T := F_Channel) (N := 4) hx hb hts i_Channel hown hK hP 4 rfl rfl 1 (by decide) (hU.2.1 _ kn_136) (fun _ h9 => h9) rfl d_CM_channel_31 ?_
        refine lv_ifnullN (tgt := 39) hx hb d_CM_channel_34 (by decide) ?_
        refine lv_aload_n hx hb d_CM_channel_39 rfl (lv_at hl 0 rfl) ?_
        refine va_getN (D := (dC, dI)) (ci := 1) (v := .null) (C := "ChannelMachine$Channel") (T := F_Channel) (N := 4) hx hb hts i_Channel hown hK hP 4 rfl rfl 0 (by decide) (hU.2.1 _ kn_133) (fun _ h9 => h9) rfl d_CM_channel_40 ?_
        refine lv_ifnullN (tgt := 50) hx hb d_CM_channel_43 (by decide) ?_
        refine lv_iconst (v := 0) hx hb d_CM_channel_50 (by decide) ?_
        refine vx_ret ?_
        refine W.widen (k := 1) (n := 6) (Nat.le_of_ble_eq_true rfl) (Nat.le_of_ble_eq_true rfl) ?_
        exact W.iret (v := 0) hx hb hr (fun t ht hW => ⟨⟨0, (), rfl, ⟨⟨by decide, by decide⟩, rfl⟩, trivial⟩, hS.F ht⟩) hS.2.2 d_CM_channel_51
      · refine va_aldq hx hb hK hP 2 4 rfl rfl (by unfold vp_in; decide) d_CM_channel_28 ?_
        refine W.eq (g2 := F0 m 29 ls [.ref y2]) (by rw [show Int32.toNatClampNeg (2 : Int32) = 2 from by decide, g2]; rfl) ?_
        refine lv_astore_n (lv' := [(2, .ref y2), (0, .ref h0), (1, .int 2)]) hx hb d_CM_channel_29 rfl hl (by decide) rfl (fun ls hl => ?_)
        refine lv_aload_n hx hb d_CM_channel_30 rfl (lv_at hl 0 rfl) ?_
        refine va_getN (D := (dC, dI)) (ci := 1) (v := .null) (C := "ChannelMachine$Channel") (T := F_Channel) (N := 4) hx hb hts i_Channel hown hK hP 5 rfl rfl 1 (by decide) (hU.2.1 _ kn_136) (fun _ h9 => h9) rfl d_CM_channel_31 ?_
        refine lv_ifnullN (tgt := 39) hx hb d_CM_channel_34 (by decide) ?_
        refine lv_aload_n hx hb d_CM_channel_39 rfl (lv_at hl 0 rfl) ?_
        refine va_getN (D := (dC, dI)) (ci := 1) (v := .null) (C := "ChannelMachine$Channel") (T := F_Channel) (N := 4) hx hb hts i_Channel hown hK hP 5 rfl rfl 0 (by decide) (hU.2.1 _ kn_133) (fun _ h9 => h9) rfl d_CM_channel_40 ?_
        refine lv_ifnullN (tgt := 50) hx hb d_CM_channel_43 (by decide) ?_
        refine lv_iconst (v := 0) hx hb d_CM_channel_50 (by decide) ?_
        refine vx_ret ?_
        refine W.widen (k := 1) (n := 6) (Nat.le_of_ble_eq_true rfl) (Nat.le_of_ble_eq_true rfl) ?_
        exact W.iret (v := 0) hx hb hr (fun t ht hW => ⟨⟨0, (), rfl, ⟨⟨by decide, by decide⟩, rfl⟩, trivial⟩, hS.F ht⟩) hS.2.2 d_CM_channel_51
      · refine va_aldq hx hb hK hP 2 4 rfl rfl (by unfold vp_in; decide) d_CM_channel_28 ?_
        refine W.eq (g2 := F0 m 29 ls [.ref y3]) (by rw [show Int32.toNatClampNeg (3 : Int32) = 3 from by decide, g3]; rfl) ?_
        refine lv_astore_n (lv' := [(2, .ref y3), (0, .ref h0), (1, .int 3)]) hx hb d_CM_channel_29 rfl hl (by decide) rfl (fun ls hl => ?_)
        refine lv_aload_n hx hb d_CM_channel_30 rfl (lv_at hl 0 rfl) ?_
        refine va_getN (D := (dC, dI)) (ci := 1) (v := .null) (C := "ChannelMachine$Channel") (T := F_Channel) (N := 4) hx hb hts i_Channel hown hK hP 6 rfl rfl 1 (by decide) (hU.2.1 _ kn_136) (fun _ h9 => h9) rfl d_CM_channel_31 ?_
        refine lv_ifnullN (tgt := 39) hx hb d_CM_channel_34 (by decide) ?_
        refine lv_aload_n hx hb d_CM_channel_39 rfl (lv_at hl 0 rfl) ?_
        refine va_getN (D := (dC, dI)) (ci := 1) (v := .null) (C := "ChannelMachine$Channel") (T := F_Channel) (N := 4) hx hb hts i_Channel hown hK hP 6 rfl rfl 0 (by decide) (hU.2.1 _ kn_133) (fun _ h9 => h9) rfl d_CM_channel_40 ?_
        refine lv_ifnullN (tgt := 50) hx hb d_CM_channel_43 (by decide) ?_
        refine lv_iconst (v := 0) hx hb d_CM_channel_50 (by decide) ?_
        refine vx_ret ?_
        refine W.widen (k := 1) (n := 6) (Nat.le_of_ble_eq_true rfl) (Nat.le_of_ble_eq_true rfl) ?_
        exact W.iret (v := 0) hx hb hr (fun t ht hW => ⟨⟨0, (), rfl, ⟨⟨by decide, by decide⟩, rfl⟩, trivial⟩, hS.F ht⟩) hS.2.2 d_CM_channel_51
      · refine va_aldq hx hb hK hP 2 4 rfl rfl (by unfold vp_in; decide) d_CM_channel_28 ?_
        refine W.eq (g2 := F0 m 29 ls [.ref y4]) (by rw [show Int32.toNatClampNeg (4 : Int32) = 4 from by decide, g4]; rfl) ?_
        refine lv_astore_n (lv' := [(2, .ref y4), (0, .ref h0), (1, .int 4)]) hx hb d_CM_channel_29 rfl hl (by decide) rfl (fun ls hl => ?_)
        refine lv_aload_n hx hb d_CM_channel_30 rfl (lv_at hl 0 rfl) ?_
        refine va_getN (D := (dC, dI)) (ci := 1) (v := .null) (C := "ChannelMachine$Channel") (T := F_Channel) (N := 4) hx hb hts i_Channel hown hK hP 7 rfl rfl 1 (by decide) (hU.2.1 _ kn_136) (fun _ h9 => h9) rfl d_CM_channel_31 ?_
        refine lv_ifnullN (tgt := 39) hx hb d_CM_channel_34 (by decide) ?_
        refine lv_aload_n hx hb d_CM_channel_39 rfl (lv_at hl 0 rfl) ?_
        refine va_getN (D := (dC, dI)) (ci := 1) (v := .null) (C := "ChannelMachine$Channel") (T := F_Channel) (N := 4) hx hb hts i_Channel hown hK hP 7 rfl rfl 0 (by decide) (hU.2.1 _ kn_133) (fun _ h9 => h9) rfl d_CM_channel_40 ?_
        refine lv_ifnullN (tgt := 50) hx hb d_CM_channel_43 (by decide) ?_
        refine lv_iconst (v := 0) hx hb d_CM_channel_50 (by decide) ?_
        refine vx_ret ?_
        refine W.widen (k := 1) (n := 6) (Nat.le_of_ble_eq_true rfl) (Nat.le_of_ble_eq_true rfl) ?_
        exact W.iret (v := 0) hx hb hr (fun t ht hW => ⟨⟨0, (), rfl, ⟨⟨by decide, by decide⟩, rfl⟩, trivial⟩, hS.F ht⟩) hS.2.2 d_CM_channel_51
      · refine va_aldq hx hb hK hP 2 4 rfl rfl (by unfold vp_in; decide) d_CM_channel_28 ?_
        refine W.eq (g2 := F0 m 29 ls [.ref y5]) (by rw [show Int32.toNatClampNeg (5 : Int32) = 5 from by decide, g5]; rfl) ?_
        refine lv_astore_n (lv' := [(2, .ref y5), (0, .ref h0), (1, .int 5)]) hx hb d_CM_channel_29 rfl hl (by decide) rfl (fun ls hl => ?_)
        refine lv_aload_n hx hb d_CM_channel_30 rfl (lv_at hl 0 rfl) ?_
        refine va_getN (D := (dC, dI)) (ci := 1) (v := .null) (C := "ChannelMachine$Channel") (T := F_Channel) (N := 4) hx hb hts i_Channel hown hK hP 8 rfl rfl 1 (by decide) (hU.2.1 _ kn_136) (fun _ h9 => h9) rfl d_CM_channel_31 ?_
        refine lv_ifnullN (tgt := 39) hx hb d_CM_channel_34 (by decide) ?_
        refine lv_aload_n hx hb d_CM_channel_39 rfl (lv_at hl 0 rfl) ?_
        refine va_getN (D := (dC, dI)) (ci := 1) (v := .null) (C := "ChannelMachine$Channel") (T := F_Channel) (N := 4) hx hb hts i_Channel hown hK hP 8 rfl rfl 0 (by decide) (hU.2.1 _ kn_133) (fun _ h9 => h9) rfl d_CM_channel_40 ?_
        refine lv_ifnullN (tgt := 50) hx hb d_CM_channel_43 (by decide) ?_
        refine lv_iconst (v := 0) hx hb d_CM_channel_50 (by decide) ?_
        refine vx_ret ?_
        refine W.widen (k := 1) (n := 6) (Nat.le_of_ble_eq_true rfl) (Nat.le_of_ble_eq_true rfl) ?_
        exact W.iret (v := 0) hx hb hr (fun t ht hW => ⟨⟨0, (), rfl, ⟨⟨by decide, by decide⟩, rfl⟩, trivial⟩, hS.F ht⟩) hS.2.2 d_CM_channel_51
    · exact x_throw (A := A) hx hb hst (own := "ChannelMachine") (cls := "java/lang/IllegalArgumentException") (text := "not a channel") (ik := 31) (is := 128) (ic := 35) hown k_230 k_13 (by decide) x_tChannelMachine_35 (by decide +kernel) rfl hts hU hZ hAN hS (by rw [hml]; exact hl.1) d_CM_channel_10 d_CM_channel_13 d_CM_channel_14 d_CM_channel_16 d_CM_channel_19 htb (Nat.le_of_ble_eq_true rfl) (Nat.le_of_ble_eq_true rfl) (Nat.le_of_ble_eq_true rfl) (Nat.le_of_ble_eq_true rfl) hlocks (fun t h1 h2 h3 h4 => ⟨(), Or.inr c2, rfl, h4⟩) hS.2.2 (Nat.le_of_ble_eq_true rfl) (Nat.le_of_ble_eq_true rfl)
set_option maxHeartbeats 4000000 in
set_option maxRecDepth 100000 in
theorem c_La_channel (l : Launch) (hst : l.stackTraces = false) (dC : Nat → ClassId) (dI : Nat → Nat → Nat) (ar : Nat → ClassId) (N0 : Nat) (z : Nat → Nat) (ot : Nat) (h0 rd mc va ch gi bo qu sl sk : Nat) (y0 y1 y2 y3 y4 y5 : Nat) (g : Nat → Option Nat) (v : Int32) (sz : Nat) (g0 : g 0 = some y0) (g1 : g 1 = some y1) (g2 : g 2 = some y2) (g3 : g 3 = some y3) (g4 : g 4 = some y4) (g5 : g 5 = some y5) : Met l ({ cls := "ChannelMachineLaw", name := "channel", desc := "(LChannelMachine;I[J)I" } : Jvm.MethodName) ((Jvm.Cond.codeWith ({ cls := "ChannelMachineLaw", name := "channel", desc := "(LChannelMachine;I[J)I" } : Jvm.MethodName) method_10_code (4 : Nat) (Option.some Jvm.ClassFile.FieldType.int) [((0 : Nat), (9 : Nat), (12 : Nat), (13 : Nat))]) :: x_T) ({ frames := 7, cells := 1, slots := 6, locals := 104 }) (x_Pc (dC, dI) ar N0 z [(ot, .inl (ar 2, 1, .inr (.inl (fun _ => 0)))), (h0, .inr (5, [.ref rd, .ref mc, .int (-1)])), (mc, .inr (2, [.ref va, .ref ch, .ref gi, .ref bo, .ref qu, .ref sl, .ref sk, .int 0, .int 0, .int 0, .long 0])), (ch, .inl (ar 4, 6, .inr (.inr (.inr (.inr g))))), (y0, .inr (1, [.null, .null, .int (-1), .null])), (y1, .inr (1, [.null, .null, .int (-1), .null])), (y2, .inr (1, [.null, .null, .int (-1), .null])), (y3, .inr (1, [.null, .null, .int (-1), .null])), (y4, .inr (1, [.null, .null, .int (-1), .null])), (y5, .inr (1, [.null, .null, .int (-1), .null]))] sz [.ref h0, .int v, .ref ot]) (va_Qi (fun (r : Int32) (u : Nat → Int64) => ((¬ v < 0 ∧ v < 6) ∧ r = 0 ∧ u 0 = 0) ∨ ((v < 0 ∨ ¬ v < 6) ∧ r = 1)) (fun u t => va_P (dC, dI) x_cl [(ot, .inl (ar 2, 1, .inr (.inl u)))] t.heap ∧ va_D (va_A [(ot, .inl (ar 2, 1, .inr (.inl (fun _ => 0)))), (h0, .inr (5, [.ref rd, .ref mc, .int (-1)])), (mc, .inr (2, [.ref va, .ref ch, .ref gi, .ref bo, .ref qu, .ref sl, .ref sk, .int 0, .int 0, .int 0, .long 0])), (ch, .inl (ar 4, 6, .inr (.inr (.inr (.inr g))))), (y0, .inr (1, [.null, .null, .int (-1), .null])), (y1, .inr (1, [.null, .null, .int (-1), .null])), (y2, .inr (1, [.null, .null, .int (-1), .null])), (y3, .inr (1, [.null, .null, .int (-1), .null])), (y4, .inr (1, [.null, .null, .int (-1), .null])), (y5, .inr (1, [.null, .null, .int (-1), .null]))] sz) [(ot, .inl (ar 2, 1, .inr (.inl u)))]) (va_A [(ot, .inl (ar 2, 1, .inr (.inl (fun _ => 0)))), (h0, .inr (5, [.ref rd, .ref mc, .int (-1)])), (mc, .inr (2, [.ref va, .ref ch, .ref gi, .ref bo, .ref qu, .ref sl, .ref sk, .int 0, .int 0, .int 0, .long 0])), (ch, .inl (ar 4, 6, .inr (.inr (.inr (.inr g))))), (y0, .inr (1, [.null, .null, .int (-1), .null])), (y1, .inr (1, [.null, .null, .int (-1), .null])), (y2, .inr (1, [.null, .null, .int (-1), .null])), (y3, .inr (1, [.null, .null, .int (-1), .null])), (y4, .inr (1, [.null, .null, .int (-1), .null])), (y5, .inr (1, [.null, .null, .int (-1), .null]))] sz)) 1 6 (va_A [(ot, .inl (ar 2, 1, .inr (.inl (fun _ => 0)))), (h0, .inr (5, [.ref rd, .ref mc, .int (-1)])), (mc, .inr (2, [.ref va, .ref ch, .ref gi, .ref bo, .ref qu, .ref sl, .ref sk, .int 0, .int 0, .int 0, .long 0])), (ch, .inl (ar 4, 6, .inr (.inr (.inr (.inr g))))), (y0, .inr (1, [.null, .null, .int (-1), .null])), (y1, .inr (1, [.null, .null, .int (-1), .null])), (y2, .inr (1, [.null, .null, .int (-1), .null])), (y3, .inr (1, [.null, .null, .int (-1), .null])), (y4, .inr (1, [.null, .null, .int (-1), .null])), (y5, .inr (1, [.null, .null, .int (-1), .null]))] sz) := by
  refine va_MetW (cc := method_10_code) (maxL := 4) (ret := (some .int)) (by decide) rfl ?_
  intro p e s m args below meth c s₁ B hml hv
  obtain ⟨rfl, hsz, hN0, hP, hU, hZ, hD0⟩ := hv
  have hK := hU.1
  have hx := B.exec
  have hb := B.bytes
  have hr := B.returns
  have hts : ∀ w ∈ x_T, w.before ([.ref h0, .int v, .ref ot] : List Value).toArray s = true := fun w h => atoms_spec (ws := (Jvm.Cond.codeWith ({ cls := "ChannelMachineLaw", name := "channel", desc := "(LChannelMachine;I[J)I" } : Jvm.MethodName) method_10_code (4 : Nat) (Option.some Jvm.ClassFile.FieldType.int) [((0 : Nat), (9 : Nat), (12 : Nat), (13 : Nat))]) :: x_T) B.pre w (List.mem_cons_of_mem _ h)
  have hown : s.vm.findClass "ChannelMachineLaw" = some m.cls := findClass_of_methodNamed B.named
  have hlocks := B.notSynchronized
  subst hsz
  have hD := hD0.self (sz := s.heap.size)
  have hAN := x_AN hD0 hN0
  generalize hAe : va_A [(ot, .inl (ar 2, 1, .inr (.inl (fun _ => 0)))), (h0, .inr (5, [.ref rd, .ref mc, .int (-1)])), (mc, .inr (2, [.ref va, .ref ch, .ref gi, .ref bo, .ref qu, .ref sl, .ref sk, .int 0, .int 0, .int 0, .long 0])), (ch, .inl (ar 4, 6, .inr (.inr (.inr (.inr g))))), (y0, .inr (1, [.null, .null, .int (-1), .null])), (y1, .inr (1, [.null, .null, .int (-1), .null])), (y2, .inr (1, [.null, .null, .int (-1), .null])), (y3, .inr (1, [.null, .null, .int (-1), .null])), (y4, .inr (1, [.null, .null, .int (-1), .null])), (y5, .inr (1, [.null, .null, .int (-1), .null]))] s.heap.size = A at hD hAN ⊢
  have hA : ∀ q : Nat, s.heap.size ≤ q → A q := fun q h => by rw [← hAe]; exact Or.inr h
  have hS : va_S A s.heap s.heap [] := va_S.rf
  have hP : va_P (dC, dI) x_cl [(ot, .inl (ar 2, 1, .inr (.inl (fun _ => 0)))), (h0, .inr (5, [.ref rd, .ref mc, .int (-1)])), (mc, .inr (2, [.ref va, .ref ch, .ref gi, .ref bo, .ref qu, .ref sl, .ref sk, .int 0, .int 0, .int 0, .long 0])), (ch, .inl (ar 4, 6, .inr (.inr (.inr (.inr g))))), (y0, .inr (1, [.null, .null, .int (-1), .null])), (y1, .inr (1, [.null, .null, .int (-1), .null])), (y2, .inr (1, [.null, .null, .int (-1), .null])), (y3, .inr (1, [.null, .null, .int (-1), .null])), (y4, .inr (1, [.null, .null, .int (-1), .null])), (y5, .inr (1, [.null, .null, .int (-1), .null]))] s.heap := hP
  have hl := lv_entry ([.ref h0, .int v, .ref ot]) (n := 4) (Nat.le_of_ble_eq_true rfl)
  rw [lg_entry_eq]
  generalize (lg_sl ([.ref h0, .int v, .ref ot]) ++ List.replicate (4 - (lg_sl ([.ref h0, .int v, .ref ot])).length) Slot.unset).toArray = ls at hl ⊢
  have hl : lv_has ls 4 [(0, .ref h0), (1, .int v), (2, .ref ot)] := hl
  have hH0 : s.heap.size ≤ s.heap.size := Nat.le_refl _
  have htab := vx_table (x := ({ cls := "ChannelMachineLaw", name := "channel", desc := "(LChannelMachine;I[J)I" } : Jvm.MethodName)) B (hts _ k_955)
  refine lv_aload_n hx hb d_La_channel_0 rfl (lv_at hl 2 rfl) ?_
  refine lv_iconst (v := 0) hx hb d_La_channel_1 (by decide) ?_
  refine lv_aload_n hx hb d_La_channel_2 rfl (lv_at hl 0 rfl) ?_
  refine lv_iload_n hx hb d_La_channel_3 rfl (lv_at hl 1 rfl) ?_
  have hPc := hP.sub (ws' := [(h0, .inr (5, [.ref rd, .ref mc, .int (-1)])), (mc, .inr (2, [.ref va, .ref ch, .ref gi, .ref bo, .ref qu, .ref sl, .ref sk, .int 0, .int 0, .int 0, .long 0])), (ch, .inl (ar 4, 6, .inr (.inr (.inr (.inr g))))), (y0, .inr (1, [.null, .null, .int (-1), .null])), (y1, .inr (1, [.null, .null, .int (-1), .null])), (y2, .inr (1, [.null, .null, .int (-1), .null])), (y3, .inr (1, [.null, .null, .int (-1), .null])), (y4, .inr (1, [.null, .null, .int (-1), .null])), (y5, .inr (1, [.null, .null, .int (-1), .null]))]) [1, 2, 3, 4, 5, 6, 7, 8, 9] rfl
  have hDc := hD.sub (ws' := [(h0, .inr (5, [.ref rd, .ref mc, .int (-1)])), (mc, .inr (2, [.ref va, .ref ch, .ref gi, .ref bo, .ref qu, .ref sl, .ref sk, .int 0, .int 0, .int 0, .long 0])), (ch, .inl (ar 4, 6, .inr (.inr (.inr (.inr g))))), (y0, .inr (1, [.null, .null, .int (-1), .null])), (y1, .inr (1, [.null, .null, .int (-1), .null])), (y2, .inr (1, [.null, .null, .int (-1), .null])), (y3, .inr (1, [.null, .null, .int (-1), .null])), (y4, .inr (1, [.null, .null, .int (-1), .null])), (y5, .inr (1, [.null, .null, .int (-1), .null]))]) [1, 2, 3, 4, 5, 6, 7, 8, 9] (by decide) rfl
  have hFc := va_free (wc := [(h0, .inr (5, [.ref rd, .ref mc, .int (-1)])), (mc, .inr (2, [.ref va, .ref ch, .ref gi, .ref bo, .ref qu, .ref sl, .ref sk, .int 0, .int 0, .int 0, .long 0])), (ch, .inl (ar 4, 6, .inr (.inr (.inr (.inr g))))), (y0, .inr (1, [.null, .null, .int (-1), .null])), (y1, .inr (1, [.null, .null, .int (-1), .null])), (y2, .inr (1, [.null, .null, .int (-1), .null])), (y3, .inr (1, [.null, .null, .int (-1), .null])), (y4, .inr (1, [.null, .null, .int (-1), .null])), (y5, .inr (1, [.null, .null, .int (-1), .null]))]) hD hS hA [1, 2, 3, 4, 5, 6, 7, 8, 9] rfl
  refine vx_calli (vx_runV (As := [.int v]) (rest := [.int 0, .ref ot]) ⟨hx, hb, hml, hown, hts⟩ (c_CM_channel l hst dC dI ar N0 z h0 rd mc va ch gi bo qu sl sk y0 y1 y2 y3 y4 y5 g (v) s.heap.size g0 g1 g2 g3 g4 g5) (cwV 1 hts (x_goodV k_956 k_957 k_958 k_1 k_959) rfl rfl rfl (by decide +kernel) ⟨Nat.le_of_ble_eq_true rfl, Nat.le_of_ble_eq_true rfl⟩) ⟨x_blind, va_recv hK hPc (ci := 5) (q0 := 0) rfl rfl, fun U hU9 hW => x_pre hU9 hW hPc hDc hU hZ hS hAN hN0⟩ rfl rfl hl.1 rfl (lv_room (Nat.le_of_ble_eq_true rfl)) d_La_channel_4 ⟨Nat.le_of_ble_eq_true rfl, Nat.le_of_ble_eq_true rfl⟩) hS (fun q _ h => hFc q h) hFc (fun q h1 h2 => hFc q h2) (fun E ce q9 u t H1 locs ht hvm hpx hbx hz1 hk1 hS hce hcv hcl => ?_) (fun r1 u2 t H1 locs ht hvm hw hB hz1 hk1 hS => ?_)
  · have hP1 : va_P (dC, dI) x_cl [] H1 := fun k q h => by simp at h
    have hD1 : va_D (va_A [(h0, .inr (5, [.ref rd, .ref mc, .int (-1)])), (mc, .inr (2, [.ref va, .ref ch, .ref gi, .ref bo, .ref qu, .ref sl, .ref sk, .int 0, .int 0, .int 0, .long 0])), (ch, .inl (ar 4, 6, .inr (.inr (.inr (.inr g))))), (y0, .inr (1, [.null, .null, .int (-1), .null])), (y1, .inr (1, [.null, .null, .int (-1), .null])), (y2, .inr (1, [.null, .null, .int (-1), .null])), (y3, .inr (1, [.null, .null, .int (-1), .null])), (y4, .inr (1, [.null, .null, .int (-1), .null])), (y5, .inr (1, [.null, .null, .int (-1), .null]))] s.heap.size) [] := ⟨fun i j p q h => by simp at h, fun k q h => by simp at h⟩
    obtain ⟨hP, hD⟩ := va_join (wr := [(ot, .inl (ar 2, 1, .inr (.inl (fun _ => 0))))]) (w1 := []) hP hD [1, 2, 3, 4, 5, 6, 7, 8, 9] [0] rfl rfl (by decide) (by decide) hk1 hFc hP1 hD1
    generalize H1 = H at hP hS hce ⊢
    have hP : va_P (dC, dI) x_cl [(ot, .inl (ar 2, 1, .inr (.inl (fun _ => 0))))] H := hP
    have hD : va_D A [(ot, .inl (ar 2, 1, .inr (.inl (fun _ => 0))))] := hD
    refine vx_widen (k := 1) (n := 6) (Nat.le_of_ble_eq_true rfl) (Nat.le_of_ble_eq_true rfl) ?_
    obtain rfl := hbx
    refine vx_catch hown [] ⟨0, 9, 12, 13⟩ [] htab (fun z h => by cases h) (by decide) (by decide) (hts _ k_221) (va_Nw.use rfl (hU.2.1 _ kn_232)) hce hcv hcl ?_
    refine lv_astore_n (lv' := [(3, .ref q9), (0, .ref h0), (1, .int v), (2, .ref ot)]) hx hb d_La_channel_12 rfl hl (by decide) rfl (fun ls hl => ?_)
    refine lv_iconst (v := 1) hx hb d_La_channel_13 (by decide) ?_
    refine W.widen (k := 1) (n := 6) (Nat.le_of_ble_eq_true rfl) (Nat.le_of_ble_eq_true rfl) ?_
    exact W.iret (v := 1) hx hb hr (fun t ht hW => ⟨⟨1, (fun _ => 0), rfl, Or.inr ⟨hpx, rfl⟩, ⟨by rw [ht]; exact hP.sub (ws' := [(ot, .inl (ar 2, 1, .inr (.inl (fun _ => 0))))]) [0] rfl, hD.sub (ws' := [(ot, .inl (ar 2, 1, .inr (.inl (fun _ => 0))))]) [0] (by decide) rfl⟩⟩, hS.F ht⟩) hS.2.2 d_La_channel_14
  · have hP1 : va_P (dC, dI) x_cl [] t.heap := fun k q h => by simp at h
    have hD1 : va_D (va_A [(h0, .inr (5, [.ref rd, .ref mc, .int (-1)])), (mc, .inr (2, [.ref va, .ref ch, .ref gi, .ref bo, .ref qu, .ref sl, .ref sk, .int 0, .int 0, .int 0, .long 0])), (ch, .inl (ar 4, 6, .inr (.inr (.inr (.inr g))))), (y0, .inr (1, [.null, .null, .int (-1), .null])), (y1, .inr (1, [.null, .null, .int (-1), .null])), (y2, .inr (1, [.null, .null, .int (-1), .null])), (y3, .inr (1, [.null, .null, .int (-1), .null])), (y4, .inr (1, [.null, .null, .int (-1), .null])), (y5, .inr (1, [.null, .null, .int (-1), .null]))] s.heap.size) [] := ⟨fun i j p q h => by simp at h, fun k q h => by simp at h⟩
    rw [ht] at hP1
    obtain ⟨hP, hD⟩ := va_join (wr := [(ot, .inl (ar 2, 1, .inr (.inl (fun _ => 0))))]) (w1 := []) hP hD [1, 2, 3, 4, 5, 6, 7, 8, 9] [0] rfl rfl (by decide) (by decide) hk1 hFc hP1 hD1
    generalize H1 = H at hP hS ⊢
    have hP : va_P (dC, dI) x_cl [(ot, .inl (ar 2, 1, .inr (.inl (fun _ => 0))))] H := hP
    have hD : va_D A [(ot, .inl (ar 2, 1, .inr (.inl (fun _ => 0))))] := hD
    refine W.widen (k := 1) (n := 6) (Nat.le_of_ble_eq_true rfl) (Nat.le_of_ble_eq_true rfl) ?_
    refine lv_i2l (v := (Int32.toInt64 r1)) hx hb d_La_channel_7 rfl ?_
    refine va_last hx hb hK hP hD hS 0 2 rfl rfl (i := 0) (x := (Int32.toInt64 r1)) (by unfold vp_in; decide) d_La_channel_8 (fun H locs hP hD hS => ?_)
    have hP : va_P (dC, dI) x_cl [(ot, .inl (ar 2, 1, .inr (.inl (vp_updL (fun _ => 0) (Int32.toNatClampNeg 0) (Int32.toInt64 r1)))))] H := hP
    have hD : va_D A [(ot, .inl (ar 2, 1, .inr (.inl (vp_updL (fun _ => 0) (Int32.toNatClampNeg 0) (Int32.toInt64 r1)))))] := hD
    refine lv_goto (tgt := 15) hx hb d_La_channel_9 (by decide) ?_
    refine lv_iconst (v := 0) hx hb d_La_channel_15 (by decide) ?_
    refine W.widen (k := 1) (n := 6) (Nat.le_of_ble_eq_true rfl) (Nat.le_of_ble_eq_true rfl) ?_
    exact W.iret (v := 0) hx hb hr (fun t ht hW => ⟨⟨0, (vp_updL (fun _ => 0) (Int32.toNatClampNeg 0) (Int32.toInt64 r1)), rfl, Or.inl ⟨hw.1, rfl, by rw [hw.2]; rfl⟩, ⟨by rw [ht]; exact hP.sub (ws' := [(ot, .inl (ar 2, 1, .inr (.inl (vp_updL (fun _ => 0) (Int32.toNatClampNeg 0) (Int32.toInt64 r1)))))]) [0] rfl, hD.sub (ws' := [(ot, .inl (ar 2, 1, .inr (.inl (vp_updL (fun _ => 0) (Int32.toNatClampNeg 0) (Int32.toInt64 r1)))))]) [0] (by decide) rfl⟩⟩, hS.F ht⟩) hS.2.2 d_La_channel_16
end
section
-- ===== 12.model: more of the reference, by program =====
theorem k_999 : (Jvm.Cond.fieldLink "ChannelMachineModel" (192 : Nat) "ChannelMachineModel" "acts" "I") ∈ x_T := x_at 999 (by decide +kernel) (by decide +kernel)
theorem k_1001 : (Jvm.Cond.fieldLink "ChannelMachineModel" (204 : Nat) "ChannelMachineModel" "time" "J") ∈ x_T := x_at 1001 (by decide +kernel) (by decide +kernel)
theorem k_1009 : (Jvm.Cond.fieldLink "ChannelMachineModel" (198 : Nat) "ChannelMachineModel" "given" "I") ∈ x_T := x_at 1009 (by decide +kernel) (by decide +kernel)
theorem d_Mo_count_0 : decode prog_12_method_48_code 0 = .ok (.aload_n 0, 1) := by decide +kernel
theorem d_Mo_count_1 : decode prog_12_method_48_code 1 = .ok (.iconst 0, 1) := by decide +kernel
theorem d_Mo_count_2 : decode prog_12_method_48_code 2 = .ok (.putfield 103, 3) := by decide +kernel
theorem d_Mo_count_5 : decode prog_12_method_48_code 5 = .ok (.iconst 0, 1) := by decide +kernel
theorem d_Mo_count_6 : decode prog_12_method_48_code 6 = .ok (.istore_n 2, 1) := by decide +kernel
theorem d_Mo_count_7 : decode prog_12_method_48_code 7 = .ok (.iconst 0, 1) := by decide +kernel
theorem d_Mo_count_8 : decode prog_12_method_48_code 8 = .ok (.istore_n 3, 1) := by decide +kernel
theorem d_Mo_count_9 : decode prog_12_method_48_code 9 = .ok (.iconst 0, 1) := by decide +kernel
theorem d_Mo_count_10 : decode prog_12_method_48_code 10 = .ok (.istore 4, 2) := by decide +kernel
theorem d_Mo_count_12 : decode prog_12_method_48_code 12 = .ok (.iload 4, 2) := by decide +kernel
theorem d_Mo_count_14 : decode prog_12_method_48_code 14 = .ok (.bipush 90, 2) := by decide +kernel
theorem d_Mo_count_16 : decode prog_12_method_48_code 16 = .ok (.if_icmp .ge 53, 3) := by decide +kernel
theorem d_Mo_count_19 : decode prog_12_method_48_code 19 = .ok (.aload_n 0, 1) := by decide +kernel
theorem d_Mo_count_20 : decode prog_12_method_48_code 20 = .ok (.getfield 208, 3) := by decide +kernel
theorem d_Mo_count_23 : decode prog_12_method_48_code 23 = .ok (.iconst 1, 1) := by decide +kernel
theorem d_Mo_count_24 : decode prog_12_method_48_code 24 = .ok (.if_icmp .ne 45, 3) := by decide +kernel
theorem d_Mo_count_27 : decode prog_12_method_48_code 27 = .ok (.aload_n 0, 1) := by decide +kernel
theorem d_Mo_count_28 : decode prog_12_method_48_code 28 = .ok (.getfield 73, 3) := by decide +kernel
theorem d_Mo_count_31 : decode prog_12_method_48_code 31 = .ok (.iload 4, 2) := by decide +kernel
theorem d_Mo_count_33 : decode prog_12_method_48_code 33 = .ok (.baload, 1) := by decide +kernel
theorem d_Mo_count_34 : decode prog_12_method_48_code 34 = .ok (.ifCond .eq 6, 3) := by decide +kernel
theorem d_Mo_count_37 : decode prog_12_method_48_code 37 = .ok (.iinc 2 1, 3) := by decide +kernel
theorem d_Mo_count_40 : decode prog_12_method_48_code 40 = .ok (.aload_n 0, 1) := by decide +kernel
theorem d_Mo_count_41 : decode prog_12_method_48_code 41 = .ok (.getfield 73, 3) := by decide +kernel
theorem d_Mo_count_44 : decode prog_12_method_48_code 44 = .ok (.iload 4, 2) := by decide +kernel
theorem d_Mo_count_46 : decode prog_12_method_48_code 46 = .ok (.baload, 1) := by decide +kernel
theorem d_Mo_count_47 : decode prog_12_method_48_code 47 = .ok (.ifCond .eq 16, 3) := by decide +kernel
theorem d_Mo_count_50 : decode prog_12_method_48_code 50 = .ok (.aload_n 0, 1) := by decide +kernel
theorem d_Mo_count_51 : decode prog_12_method_48_code 51 = .ok (.getfield 76, 3) := by decide +kernel
theorem d_Mo_count_54 : decode prog_12_method_48_code 54 = .ok (.iload 4, 2) := by decide +kernel
theorem d_Mo_count_56 : decode prog_12_method_48_code 56 = .ok (.baload, 1) := by decide +kernel
theorem d_Mo_count_57 : decode prog_12_method_48_code 57 = .ok (.ifCond .eq 6, 3) := by decide +kernel
theorem d_Mo_count_60 : decode prog_12_method_48_code 60 = .ok (.iinc 3 1, 3) := by decide +kernel
theorem d_Mo_count_63 : decode prog_12_method_48_code 63 = .ok (.iinc 4 1, 3) := by decide +kernel
theorem d_Mo_count_66 : decode prog_12_method_48_code 66 = .ok (.goto (-54), 3) := by decide +kernel
theorem d_Mo_count_69 : decode prog_12_method_48_code 69 = .ok (.iload_n 1, 1) := by decide +kernel
theorem d_Mo_count_70 : decode prog_12_method_48_code 70 = .ok (.tableswitch 115 0 8 #[50, 55, 61, 91, 93, 98, 103, 108, 113], 50) := by decide +kernel
theorem d_Mo_count_120 : decode prog_12_method_48_code 120 = .ok (.aload_n 0, 1) := by decide +kernel
theorem d_Mo_count_121 : decode prog_12_method_48_code 121 = .ok (.getfield 22, 3) := by decide +kernel
theorem d_Mo_count_124 : decode prog_12_method_48_code 124 = .ok (.ireturn, 1) := by decide +kernel
theorem d_Mo_count_125 : decode prog_12_method_48_code 125 = .ok (.aload_n 0, 1) := by decide +kernel
theorem d_Mo_count_126 : decode prog_12_method_48_code 126 = .ok (.getfield 204, 3) := by decide +kernel
theorem d_Mo_count_129 : decode prog_12_method_48_code 129 = .ok (.l2i, 1) := by decide +kernel
theorem d_Mo_count_130 : decode prog_12_method_48_code 130 = .ok (.ireturn, 1) := by decide +kernel
theorem d_Mo_count_131 : decode prog_12_method_48_code 131 = .ok (.aload_n 0, 1) := by decide +kernel
theorem d_Mo_count_132 : decode prog_12_method_48_code 132 = .ok (.getfield 208, 3) := by decide +kernel
theorem d_Mo_count_135 : decode prog_12_method_48_code 135 = .ok (.iconst 1, 1) := by decide +kernel
theorem d_Mo_count_136 : decode prog_12_method_48_code 136 = .ok (.if_icmp .ne 23, 3) := by decide +kernel
theorem d_Mo_count_139 : decode prog_12_method_48_code 139 = .ok (.aload_n 0, 1) := by decide +kernel
theorem d_Mo_count_140 : decode prog_12_method_48_code 140 = .ok (.getfield 201, 3) := by decide +kernel
theorem d_Mo_count_143 : decode prog_12_method_48_code 143 = .ok (.aload_n 0, 1) := by decide +kernel
theorem d_Mo_count_144 : decode prog_12_method_48_code 144 = .ok (.getfield 79, 3) := by decide +kernel
theorem d_Mo_count_147 : decode prog_12_method_48_code 147 = .ok (.ifCond .lt 7, 3) := by decide +kernel
theorem d_Mo_count_150 : decode prog_12_method_48_code 150 = .ok (.iconst 1, 1) := by decide +kernel
theorem d_Mo_count_151 : decode prog_12_method_48_code 151 = .ok (.goto 4, 3) := by decide +kernel
theorem d_Mo_count_154 : decode prog_12_method_48_code 154 = .ok (.iconst 0, 1) := by decide +kernel
theorem d_Mo_count_155 : decode prog_12_method_48_code 155 = .ok (.iadd, 1) := by decide +kernel
theorem d_Mo_count_156 : decode prog_12_method_48_code 156 = .ok (.goto 4, 3) := by decide +kernel
theorem d_Mo_count_159 : decode prog_12_method_48_code 159 = .ok (.iconst 0, 1) := by decide +kernel
theorem d_Mo_count_160 : decode prog_12_method_48_code 160 = .ok (.ireturn, 1) := by decide +kernel
theorem d_Mo_count_161 : decode prog_12_method_48_code 161 = .ok (.iload_n 2, 1) := by decide +kernel
theorem d_Mo_count_162 : decode prog_12_method_48_code 162 = .ok (.ireturn, 1) := by decide +kernel
theorem d_Mo_count_163 : decode prog_12_method_48_code 163 = .ok (.aload_n 0, 1) := by decide +kernel
theorem d_Mo_count_164 : decode prog_12_method_48_code 164 = .ok (.getfield 192, 3) := by decide +kernel
theorem d_Mo_count_167 : decode prog_12_method_48_code 167 = .ok (.ireturn, 1) := by decide +kernel
theorem d_Mo_count_168 : decode prog_12_method_48_code 168 = .ok (.aload_n 0, 1) := by decide +kernel
theorem d_Mo_count_169 : decode prog_12_method_48_code 169 = .ok (.getfield 198, 3) := by decide +kernel
theorem d_Mo_count_172 : decode prog_12_method_48_code 172 = .ok (.ireturn, 1) := by decide +kernel
theorem d_Mo_count_173 : decode prog_12_method_48_code 173 = .ok (.aload_n 0, 1) := by decide +kernel
theorem d_Mo_count_174 : decode prog_12_method_48_code 174 = .ok (.getfield 195, 3) := by decide +kernel
theorem d_Mo_count_177 : decode prog_12_method_48_code 177 = .ok (.ireturn, 1) := by decide +kernel
theorem d_Mo_count_178 : decode prog_12_method_48_code 178 = .ok (.aload_n 0, 1) := by decide +kernel
theorem d_Mo_count_179 : decode prog_12_method_48_code 179 = .ok (.getfield 208, 3) := by decide +kernel
theorem d_Mo_count_182 : decode prog_12_method_48_code 182 = .ok (.ireturn, 1) := by decide +kernel
theorem d_Mo_count_183 : decode prog_12_method_48_code 183 = .ok (.iload_n 3, 1) := by decide +kernel
theorem d_Mo_count_184 : decode prog_12_method_48_code 184 = .ok (.ireturn, 1) := by decide +kernel
theorem d_Mo_count_185 : decode prog_12_method_48_code 185 = .ok (.iconst (-1), 1) := by decide +kernel
theorem d_Mo_count_186 : decode prog_12_method_48_code 186 = .ok (.ireturn, 1) := by decide +kernel
set_option maxHeartbeats 4000000 in
set_option maxRecDepth 100000 in
theorem c_Mo_count (l : Launch) (dC : Nat → ClassId) (dI : Nat → Nat → Nat) (ar : Nat → ClassId) (N0 : Nat) (z : Nat → Nat) (h0 : Nat) (fs : List Value) (v : Int32) (sz : Nat) (hfs : fs.length = 45) (g_place : fs[5]? = some (.int (-1))) (g_status : fs[9]? = some (.int 0)) (g_acts : fs[32]? = some (.int 0)) (g_time : fs[34]? = some (.long 0)) (g_given : fs[42]? = some (.int 0)) (g_boxed : fs[43]? = some (.int 0)) : Met l ({ cls := "ChannelMachineModel", name := "count", desc := "(I)I" } : Jvm.MethodName) ((Jvm.Cond.code ({ cls := "ChannelMachineModel", name := "count", desc := "(I)I" } : Jvm.MethodName) prog_12_method_48_code (5 : Nat) (Option.some Jvm.ClassFile.FieldType.int)) :: x_T) ({ frames := 0, cells := 0, slots := 0, locals := 0 }) (x_Pc (dC, dI) ar N0 z [(h0, .inr (6, fs))] sz [.ref h0, .int v]) (va_Qi (fun (r : Int32) (u : Int32) => r = x_cnt v) (fun u t => ∃ fz : List Value, va_P (dC, dI) x_cl [(h0, .inr (6, fz))] t.heap ∧ va_D (va_A [(h0, .inr (6, fs))] sz) [(h0, .inr (6, fz))] ∧ fz[33]? = some (.int u)) (va_A [(h0, .inr (6, fs))] sz)) 0 0 (va_A [(h0, .inr (6, fs))] sz) := by
  refine Met.ofW (cc := prog_12_method_48_code) (maxL := 5) (ret := (some .int)) (by decide) rfl ?_
  intro p e s m args below meth c s₁ B hml hv
  obtain ⟨rfl, hsz, hN0, hP, hU, hZ, hD0⟩ := hv
  have hK := hU.1
  have hx := B.exec
  have hb := B.bytes
  have hr := B.returns
  have hts : ∀ w ∈ x_T, w.before ([.ref h0, .int v] : List Value).toArray s = true := fun w h => atoms_spec (ws := (Jvm.Cond.code ({ cls := "ChannelMachineModel", name := "count", desc := "(I)I" } : Jvm.MethodName) prog_12_method_48_code (5 : Nat) (Option.some Jvm.ClassFile.FieldType.int)) :: x_T) B.pre w (List.mem_cons_of_mem _ h)
  have hown : s.vm.findClass "ChannelMachineModel" = some m.cls := findClass_of_methodNamed B.named
  have hlocks := B.notSynchronized
  subst hsz
  have hD := hD0.self (sz := s.heap.size)
  have hAN := x_AN hD0 hN0
  generalize hAe : va_A [(h0, .inr (6, fs))] s.heap.size = A at hD hAN ⊢
  have hA : ∀ q : Nat, s.heap.size ≤ q → A q := fun q h => by rw [← hAe]; exact Or.inr h
  have hS : va_S A s.heap s.heap [] := va_S.rf
  have hP : va_P (dC, dI) x_cl [(h0, .inr (6, fs))] s.heap := hP
  have hl := lv_entry ([.ref h0, .int v]) (n := 5) (Nat.le_of_ble_eq_true rfl)
  rw [lg_entry_eq]
  generalize (lg_sl ([.ref h0, .int v]) ++ List.replicate (5 - (lg_sl ([.ref h0, .int v])).length) Slot.unset).toArray = ls at hl ⊢
  have hl : lv_has ls 5 [(0, .ref h0), (1, .int v)] := hl
  have hH0 : s.heap.size ≤ s.heap.size := Nat.le_refl _
  refine lv_aload_n hx hb d_Mo_count_0 rfl (lv_at hl 0 rfl) ?_
  refine lv_iconst (v := 0) hx hb d_Mo_count_1 (by decide) ?_
  refine va_put (D := (dC, dI)) (ci := 6) (v := .int 0) (ty := .int) (C := "ChannelMachineModel") (T := F_Mo) (N := 45) hx hb hts i_Mo t_Mo t_Mo_ok n_Mo hown hK hP hD hS 0 rfl rfl 33 (by decide) (hts _ k_1000) (fun _ h9 => h9) rfl (by decide +kernel) rfl rfl (by first | omega | (simp; omega)) d_Mo_count_2 (fun H locs hP hD hS => ?_)
  have hP : va_P (dC, dI) x_cl [(h0, .inr (6, (fs.set 33 (.int 0))))] H := hP
  have hD : va_D A [(h0, .inr (6, (fs.set 33 (.int 0))))] := hD
  refine lv_iconst (v := 0) hx hb d_Mo_count_5 (by decide) ?_
  refine lv_istore_n (lv' := [(2, .int 0), (0, .ref h0), (1, .int v)]) hx hb d_Mo_count_6 rfl hl (by decide) rfl (fun ls hl => ?_)
  refine lv_iconst (v := 0) hx hb d_Mo_count_7 (by decide) ?_
  refine lv_istore_n (lv' := [(3, .int 0), (2, .int 0), (0, .ref h0), (1, .int v)]) hx hb d_Mo_count_8 rfl hl (by decide) rfl (fun ls hl => ?_)
  refine lv_iconst (v := 0) hx hb d_Mo_count_9 (by decide) ?_
  refine lv_istore (lv' := [(4, .int 0), (3, .int 0), (2, .int 0), (0, .ref h0), (1, .int v)]) hx hb d_Mo_count_10 hl (by decide) rfl (fun ls hl => ?_)
  refine lv_iload hx hb d_Mo_count_12 (lv_at hl 0 rfl) ?_
  refine lv_bipush (v := 90) hx hb d_Mo_count_14 (by decide) ?_
  refine lv_icmp_ge (tgt := 69) hx hb d_Mo_count_16 (by decide) (fun c1 => absurd c1 (by decide)) (fun _ => ?_)
  refine lv_aload_n hx hb d_Mo_count_19 rfl (lv_at hl 3 rfl) ?_
  refine va_get (D := (dC, dI)) (ci := 6) (v := .int 0) (C := "ChannelMachineModel") (T := F_Mo) (N := 45) hx hb hts i_Mo hown hK hP 0 rfl rfl 9 (by decide) (hts _ k_976) (fun _ h9 => h9) (x_gs (by decide) g_status) d_Mo_count_20 ?_
  refine lv_iconst (v := 1) hx hb d_Mo_count_23 (by decide) ?_
  refine lv_icmp_ne (tgt := 69) hx hb d_Mo_count_24 (by decide) (fun _ => ?_) (fun c2 => absurd c2 (by decide))
  refine lv_iload_n hx hb d_Mo_count_69 rfl (lv_at hl 4 rfl) ?_
  rcases x_9 v with h9 | rfl | rfl | rfl | rfl | rfl | rfl | rfl | rfl | rfl
  · refine lv_tableOut (tgt := 185) hx hb d_Mo_count_70 h9 (by decide) ?_
    refine lv_iconst (v := (-1)) hx hb d_Mo_count_185 (by decide) ?_
    refine W.widen (k := 0) (n := 0) (Nat.le_of_ble_eq_true rfl) (Nat.le_of_ble_eq_true rfl) ?_
    exact W.iret (v := (-1)) hx hb hr (fun t ht hW => ⟨⟨(-1), 0, rfl, x_cnt_out h9, ⟨(fs.set 33 (.int 0)), by rw [ht]; exact hP.sub (ws' := [(h0, .inr (6, (fs.set 33 (.int 0))))]) [0] rfl, hD.sub (ws' := [(h0, .inr (6, (fs.set 33 (.int 0))))]) [0] (by decide) rfl, (x_ge (by first | omega | (simp; omega)))⟩⟩, hS.F ht⟩) hS.2.2 d_Mo_count_186
  · refine lv_tableIn (tgt := 120) hx hb d_Mo_count_70 (by decide) (by decide) (off := 50) rfl (by decide) ?_
    refine lv_aload_n hx hb d_Mo_count_120 rfl (lv_at hl 3 rfl) ?_
    refine va_get (D := (dC, dI)) (ci := 6) (v := .int (-1)) (C := "ChannelMachineModel") (T := F_Mo) (N := 45) hx hb hts i_Mo hown hK hP 0 rfl rfl 5 (by decide) (hts _ k_972) (fun _ h9 => h9) (x_gs (by decide) g_place) d_Mo_count_121 ?_
    refine W.widen (k := 0) (n := 0) (Nat.le_of_ble_eq_true rfl) (Nat.le_of_ble_eq_true rfl) ?_
    exact W.iret (v := (-1)) hx hb hr (fun t ht hW => ⟨⟨(-1), 0, rfl, by decide, ⟨(fs.set 33 (.int 0)), by rw [ht]; exact hP.sub (ws' := [(h0, .inr (6, (fs.set 33 (.int 0))))]) [0] rfl, hD.sub (ws' := [(h0, .inr (6, (fs.set 33 (.int 0))))]) [0] (by decide) rfl, (x_ge (by first | omega | (simp; omega)))⟩⟩, hS.F ht⟩) hS.2.2 d_Mo_count_124
  · refine lv_tableIn (tgt := 125) hx hb d_Mo_count_70 (by decide) (by decide) (off := 55) rfl (by decide) ?_
    refine lv_aload_n hx hb d_Mo_count_125 rfl (lv_at hl 3 rfl) ?_
    refine va_get (D := (dC, dI)) (ci := 6) (v := .long 0) (C := "ChannelMachineModel") (T := F_Mo) (N := 45) hx hb hts i_Mo hown hK hP 0 rfl rfl 34 (by decide) (hts _ k_1001) (fun _ h9 => h9) (x_gs (by decide) g_time) d_Mo_count_126 ?_
    refine lv_l2i (v := 0) hx hb d_Mo_count_129 (by decide) ?_
    refine W.widen (k := 0) (n := 0) (Nat.le_of_ble_eq_true rfl) (Nat.le_of_ble_eq_true rfl) ?_
    exact W.iret (v := 0) hx hb hr (fun t ht hW => ⟨⟨0, 0, rfl, by decide, ⟨(fs.set 33 (.int 0)), by rw [ht]; exact hP.sub (ws' := [(h0, .inr (6, (fs.set 33 (.int 0))))]) [0] rfl, hD.sub (ws' := [(h0, .inr (6, (fs.set 33 (.int 0))))]) [0] (by decide) rfl, (x_ge (by first | omega | (simp; omega)))⟩⟩, hS.F ht⟩) hS.2.2 d_Mo_count_130
  · refine lv_tableIn (tgt := 131) hx hb d_Mo_count_70 (by decide) (by decide) (off := 61) rfl (by decide) ?_
    refine lv_aload_n hx hb d_Mo_count_131 rfl (lv_at hl 3 rfl) ?_
    refine va_get (D := (dC, dI)) (ci := 6) (v := .int 0) (C := "ChannelMachineModel") (T := F_Mo) (N := 45) hx hb hts i_Mo hown hK hP 0 rfl rfl 9 (by decide) (hts _ k_976) (fun _ h9 => h9) (x_gs (by decide) g_status) d_Mo_count_132 ?_
    refine lv_iconst (v := 1) hx hb d_Mo_count_135 (by decide) ?_
    refine lv_icmp_ne (tgt := 159) hx hb d_Mo_count_136 (by decide) (fun _ => ?_) (fun c3 => absurd c3 (by decide))
    refine lv_iconst (v := 0) hx hb d_Mo_count_159 (by decide) ?_
    refine W.widen (k := 0) (n := 0) (Nat.le_of_ble_eq_true rfl) (Nat.le_of_ble_eq_true rfl) ?_
    exact W.iret (v := 0) hx hb hr (fun t ht hW => ⟨⟨0, 0, rfl, by decide, ⟨(fs.set 33 (.int 0)), by rw [ht]; exact hP.sub (ws' := [(h0, .inr (6, (fs.set 33 (.int 0))))]) [0] rfl, hD.sub (ws' := [(h0, .inr (6, (fs.set 33 (.int 0))))]) [0] (by decide) rfl, (x_ge (by first | omega | (simp; omega)))⟩⟩, hS.F ht⟩) hS.2.2 d_Mo_count_160
  · refine lv_tableIn (tgt := 161) hx hb d_Mo_count_70 (by decide) (by decide) (off := 91) rfl (by decide) ?_
    refine lv_iload_n hx hb d_Mo_count_161 rfl (lv_at hl 2 rfl) ?_
    refine W.widen (k := 0) (n := 0) (Nat.le_of_ble_eq_true rfl) (Nat.le_of_ble_eq_true rfl) ?_
    exact W.iret (v := 0) hx hb hr (fun t ht hW => ⟨⟨0, 0, rfl, by decide, ⟨(fs.set 33 (.int 0)), by rw [ht]; exact hP.sub (ws' := [(h0, .inr (6, (fs.set 33 (.int 0))))]) [0] rfl, hD.sub (ws' := [(h0, .inr (6, (fs.set 33 (.int 0))))]) [0] (by decide) rfl, (x_ge (by first | omega | (simp; omega)))⟩⟩, hS.F ht⟩) hS.2.2 d_Mo_count_162
  · refine lv_tableIn (tgt := 163) hx hb d_Mo_count_70 (by decide) (by decide) (off := 93) rfl (by decide) ?_
    refine lv_aload_n hx hb d_Mo_count_163 rfl (lv_at hl 3 rfl) ?_
    refine va_get (D := (dC, dI)) (ci := 6) (v := .int 0) (C := "ChannelMachineModel") (T := F_Mo) (N := 45) hx hb hts i_Mo hown hK hP 0 rfl rfl 32 (by decide) (hts _ k_999) (fun _ h9 => h9) (x_gs (by decide) g_acts) d_Mo_count_164 ?_
    refine W.widen (k := 0) (n := 0) (Nat.le_of_ble_eq_true rfl) (Nat.le_of_ble_eq_true rfl) ?_
    exact W.iret (v := 0) hx hb hr (fun t ht hW => ⟨⟨0, 0, rfl, by decide, ⟨(fs.set 33 (.int 0)), by rw [ht]; exact hP.sub (ws' := [(h0, .inr (6, (fs.set 33 (.int 0))))]) [0] rfl, hD.sub (ws' := [(h0, .inr (6, (fs.set 33 (.int 0))))]) [0] (by decide) rfl, (x_ge (by first | omega | (simp; omega)))⟩⟩, hS.F ht⟩) hS.2.2 d_Mo_count_167
  · refine lv_tableIn (tgt := 168) hx hb d_Mo_count_70 (by decide) (by decide) (off := 98) rfl (by decide) ?_
    refine lv_aload_n hx hb d_Mo_count_168 rfl (lv_at hl 3 rfl) ?_
    refine va_get (D := (dC, dI)) (ci := 6) (v := .int 0) (C := "ChannelMachineModel") (T := F_Mo) (N := 45) hx hb hts i_Mo hown hK hP 0 rfl rfl 42 (by decide) (hts _ k_1009) (fun _ h9 => h9) (x_gs (by decide) g_given) d_Mo_count_169 ?_
    refine W.widen (k := 0) (n := 0) (Nat.le_of_ble_eq_true rfl) (Nat.le_of_ble_eq_true rfl) ?_
    exact W.iret (v := 0) hx hb hr (fun t ht hW => ⟨⟨0, 0, rfl, by decide, ⟨(fs.set 33 (.int 0)), by rw [ht]; exact hP.sub (ws' := [(h0, .inr (6, (fs.set 33 (.int 0))))]) [0] rfl, hD.sub (ws' := [(h0, .inr (6, (fs.set 33 (.int 0))))]) [0] (by decide) rfl, (x_ge (by first | omega | (simp; omega)))⟩⟩, hS.F ht⟩) hS.2.2 d_Mo_count_172
  · refine lv_tableIn (tgt := 173) hx hb d_Mo_count_70 (by decide) (by decide) (off := 103) rfl (by decide) ?_
    refine lv_aload_n hx hb d_Mo_count_173 rfl (lv_at hl 3 rfl) ?_
    refine va_get (D := (dC, dI)) (ci := 6) (v := .int 0) (C := "ChannelMachineModel") (T := F_Mo) (N := 45) hx hb hts i_Mo hown hK hP 0 rfl rfl 43 (by decide) (hts _ k_1010) (fun _ h9 => h9) (x_gs (by decide) g_boxed) d_Mo_count_174 ?_
    refine W.widen (k := 0) (n := 0) (Nat.le_of_ble_eq_true rfl) (Nat.le_of_ble_eq_true rfl) ?_
    exact W.iret (v := 0) hx hb hr (fun t ht hW => ⟨⟨0, 0, rfl, by decide, ⟨(fs.set 33 (.int 0)), by rw [ht]; exact hP.sub (ws' := [(h0, .inr (6, (fs.set 33 (.int 0))))]) [0] rfl, hD.sub (ws' := [(h0, .inr (6, (fs.set 33 (.int 0))))]) [0] (by decide) rfl, (x_ge (by first | omega | (simp; omega)))⟩⟩, hS.F ht⟩) hS.2.2 d_Mo_count_177
  · refine lv_tableIn (tgt := 178) hx hb d_Mo_count_70 (by decide) (by decide) (off := 108) rfl (by decide) ?_
    refine lv_aload_n hx hb d_Mo_count_178 rfl (lv_at hl 3 rfl) ?_
    refine va_get (D := (dC, dI)) (ci := 6) (v := .int 0) (C := "ChannelMachineModel") (T := F_Mo) (N := 45) hx hb hts i_Mo hown hK hP 0 rfl rfl 9 (by decide) (hts _ k_976) (fun _ h9 => h9) (x_gs (by decide) g_status) d_Mo_count_179 ?_
    refine W.widen (k := 0) (n := 0) (Nat.le_of_ble_eq_true rfl) (Nat.le_of_ble_eq_true rfl) ?_
    exact W.iret (v := 0) hx hb hr (fun t ht hW => ⟨⟨0, 0, rfl, by decide, ⟨(fs.set 33 (.int 0)), by rw [ht]; exact hP.sub (ws' := [(h0, .inr (6, (fs.set 33 (.int 0))))]) [0] rfl, hD.sub (ws' := [(h0, .inr (6, (fs.set 33 (.int 0))))]) [0] (by decide) rfl, (x_ge (by first | omega | (simp; omega)))⟩⟩, hS.F ht⟩) hS.2.2 d_Mo_count_182
  · refine lv_tableIn (tgt := 183) hx hb d_Mo_count_70 (by decide) (by decide) (off := 113) rfl (by decide) ?_
    refine lv_iload_n hx hb d_Mo_count_183 rfl (lv_at hl 1 rfl) ?_
    refine W.widen (k := 0) (n := 0) (Nat.le_of_ble_eq_true rfl) (Nat.le_of_ble_eq_true rfl) ?_
    exact W.iret (v := 0) hx hb hr (fun t ht hW => ⟨⟨0, 0, rfl, by decide, ⟨(fs.set 33 (.int 0)), by rw [ht]; exact hP.sub (ws' := [(h0, .inr (6, (fs.set 33 (.int 0))))]) [0] rfl, hD.sub (ws' := [(h0, .inr (6, (fs.set 33 (.int 0))))]) [0] (by decide) rfl, (x_ge (by first | omega | (simp; omega)))⟩⟩, hS.F ht⟩) hS.2.2 d_Mo_count_184
end
section
-- ===== 13.load: reading the empty text, by program =====
theorem k_19 : (Jvm.Cond.initialized "java/lang/Math") ∈ x_T := x_at 19 (by decide +kernel) (by decide +kernel)
theorem k_334 : (Jvm.Cond.methodLink "ChannelMachine$Reader" (63 : Nat) ({ cls := "ChannelMachine$Reader", name := "begin", desc := "(LChannelMachine$Process;I)LChannelMachine$Process;" } : Jvm.MethodName)) ∈ x_T := x_at 334 (by decide +kernel) (by decide +kernel)
theorem k_336 : (Jvm.Cond.instanceMethod ({ cls := "ChannelMachine$Reader", name := "begin", desc := "(LChannelMachine$Process;I)LChannelMachine$Process;" } : Jvm.MethodName)) ∈ x_T := x_at 336 (by decide +kernel) (by decide +kernel)
theorem k_337 : (Jvm.Cond.code ({ cls := "ChannelMachine$Reader", name := "begin", desc := "(LChannelMachine$Process;I)LChannelMachine$Process;" } : Jvm.MethodName) prog_8_method_14_code (7 : Nat) (Option.some (Jvm.ClassFile.FieldType.object "ChannelMachine$Process"))) ∈ x_T := x_at 337 (by decide +kernel) (by decide +kernel)
theorem k_338 : (Jvm.Cond.methodLink "ChannelMachine$Reader" (52 : Nat) ({ cls := "ChannelMachine$Reader", name := "look", desc := "()C" } : Jvm.MethodName)) ∈ x_T := x_at 338 (by decide +kernel) (by decide +kernel)
theorem k_340 : (Jvm.Cond.instanceMethod ({ cls := "ChannelMachine$Reader", name := "look", desc := "()C" } : Jvm.MethodName)) ∈ x_T := x_at 340 (by decide +kernel) (by decide +kernel)
theorem k_341 : (Jvm.Cond.code ({ cls := "ChannelMachine$Reader", name := "look", desc := "()C" } : Jvm.MethodName) prog_8_method_5_code (1 : Nat) (Option.some Jvm.ClassFile.FieldType.char)) ∈ x_T := x_at 341 (by decide +kernel) (by decide +kernel)
theorem k_342 : (Jvm.Cond.methodLink "ChannelMachine$Reader" (113 : Nat) ({ cls := "ChannelMachine$Reader", name := "lookBehindNext", desc := "()C" } : Jvm.MethodName)) ∈ x_T := x_at 342 (by decide +kernel) (by decide +kernel)
theorem k_344 : (Jvm.Cond.instanceMethod ({ cls := "ChannelMachine$Reader", name := "lookBehindNext", desc := "()C" } : Jvm.MethodName)) ∈ x_T := x_at 344 (by decide +kernel) (by decide +kernel)
theorem k_345 : (Jvm.Cond.code ({ cls := "ChannelMachine$Reader", name := "lookBehindNext", desc := "()C" } : Jvm.MethodName) prog_8_method_6_code (1 : Nat) (Option.some Jvm.ClassFile.FieldType.char)) ∈ x_T := x_at 345 (by decide +kernel) (by decide +kernel)
theorem k_346 : (Jvm.Cond.methodLink "ChannelMachine$Reader" (116 : Nat) ({ cls := "ChannelMachine$Reader", name := "kindOf", desc := "(CC)LChannelMachine$Kind;" } : Jvm.MethodName)) ∈ x_T := x_at 346 (by decide +kernel) (by decide +kernel)
theorem k_347 : (Jvm.Cond.static ({ cls := "ChannelMachine$Reader", name := "kindOf", desc := "(CC)LChannelMachine$Kind;" } : Jvm.MethodName)) ∈ x_T := x_at 347 (by decide +kernel) (by decide +kernel)
theorem k_348 : (Jvm.Cond.code ({ cls := "ChannelMachine$Reader", name := "kindOf", desc := "(CC)LChannelMachine$Kind;" } : Jvm.MethodName) prog_8_method_15_code (2 : Nat) (Option.some (Jvm.ClassFile.FieldType.object "ChannelMachine$Kind"))) ∈ x_T := x_at 348 (by decide +kernel) (by decide +kernel)
theorem k_359 : (Jvm.Cond.fieldLink "ChannelMachine$Reader" (120 : Nat) "ChannelMachine$Kind" "LOOP" "LChannelMachine$Kind;") ∈ x_T := x_at 359 (by decide +kernel) (by decide +kernel)
theorem k_361 : (Jvm.Cond.fieldLink "ChannelMachine$Reader" (123 : Nat) "ChannelMachine$Kind" "CONDITION" "LChannelMachine$Kind;") ∈ x_T := x_at 361 (by decide +kernel) (by decide +kernel)
theorem k_369 : (Jvm.Cond.methodLink "ChannelMachine$Reader" (60 : Nat) ({ cls := "ChannelMachine$Reader", name := "isVariable", desc := "(C)Z" } : Jvm.MethodName)) ∈ x_T := x_at 369 (by decide +kernel) (by decide +kernel)
theorem k_370 : (Jvm.Cond.static ({ cls := "ChannelMachine$Reader", name := "isVariable", desc := "(C)Z" } : Jvm.MethodName)) ∈ x_T := x_at 370 (by decide +kernel) (by decide +kernel)
theorem k_371 : (Jvm.Cond.code ({ cls := "ChannelMachine$Reader", name := "isVariable", desc := "(C)Z" } : Jvm.MethodName) prog_8_method_11_code (1 : Nat) (Option.some Jvm.ClassFile.FieldType.boolean)) ∈ x_T := x_at 371 (by decide +kernel) (by decide +kernel)
theorem k_374 : (Jvm.Cond.methodLink "ChannelMachine$Reader" (130 : Nat) ({ cls := "ChannelMachine$Reader", name := "channelOf", desc := "(C)I" } : Jvm.MethodName)) ∈ x_T := x_at 374 (by decide +kernel) (by decide +kernel)
theorem k_375 : (Jvm.Cond.static ({ cls := "ChannelMachine$Reader", name := "channelOf", desc := "(C)I" } : Jvm.MethodName)) ∈ x_T := x_at 375 (by decide +kernel) (by decide +kernel)
theorem k_376 : (Jvm.Cond.code ({ cls := "ChannelMachine$Reader", name := "channelOf", desc := "(C)I" } : Jvm.MethodName) prog_8_method_12_code (1 : Nat) (Option.some Jvm.ClassFile.FieldType.int)) ∈ x_T := x_at 376 (by decide +kernel) (by decide +kernel)
theorem k_477 : (Jvm.Cond.methodLink "ChannelMachine$Reader" (42 : Nat) ({ cls := "ChannelMachine$Reader", name := "refuse", desc := "()Z" } : Jvm.MethodName)) ∈ x_T := x_at 477 (by decide +kernel) (by decide +kernel)
theorem k_479 : (Jvm.Cond.instanceMethod ({ cls := "ChannelMachine$Reader", name := "refuse", desc := "()Z" } : Jvm.MethodName)) ∈ x_T := x_at 479 (by decide +kernel) (by decide +kernel)
theorem k_480 : (Jvm.Cond.code ({ cls := "ChannelMachine$Reader", name := "refuse", desc := "()Z" } : Jvm.MethodName) prog_8_method_7_code (1 : Nat) (Option.some Jvm.ClassFile.FieldType.boolean)) ∈ x_T := x_at 480 (by decide +kernel) (by decide +kernel)
theorem k_481 : (Jvm.Cond.methodLink "ChannelMachine$Reader" (46 : Nat) ({ cls := "java/lang/Math", name := "max", desc := "(II)I" } : Jvm.MethodName)) ∈ x_T := x_at 481 (by decide +kernel) (by decide +kernel)
theorem k_482 : (Jvm.Cond.static ({ cls := "java/lang/Math", name := "max", desc := "(II)I" } : Jvm.MethodName)) ∈ x_T := x_at 482 (by decide +kernel) (by decide +kernel)
theorem k_483 : (Jvm.Cond.code ({ cls := "java/lang/Math", name := "max", desc := "(II)I" } : Jvm.MethodName) prog_21_method_65_code (2 : Nat) (Option.some Jvm.ClassFile.FieldType.int)) ∈ x_T := x_at 483 (by decide +kernel) (by decide +kernel)
theorem kp_2 : (Jvm.Cond.selects "ChannelMachine$Reader" ({ cls := "ChannelMachine$Reader", name := "begin", desc := "(LChannelMachine$Process;I)LChannelMachine$Process;" } : Jvm.MethodName) ({ cls := "ChannelMachine$Reader", name := "begin", desc := "(LChannelMachine$Process;I)LChannelMachine$Process;" } : Jvm.MethodName)) ∈ x_T := x_sel (q := (({ cls := "ChannelMachine$Reader", name := "begin", desc := "(LChannelMachine$Process;I)LChannelMachine$Process;" } : Jvm.MethodName), 9)) 2 (by decide +kernel) (by decide +kernel)
theorem kp_3 : (Jvm.Cond.selects "ChannelMachine$Reader" ({ cls := "ChannelMachine$Reader", name := "look", desc := "()C" } : Jvm.MethodName) ({ cls := "ChannelMachine$Reader", name := "look", desc := "()C" } : Jvm.MethodName)) ∈ x_T := x_sel (q := (({ cls := "ChannelMachine$Reader", name := "look", desc := "()C" } : Jvm.MethodName), 9)) 3 (by decide +kernel) (by decide +kernel)
theorem kp_4 : (Jvm.Cond.selects "ChannelMachine$Reader" ({ cls := "ChannelMachine$Reader", name := "lookBehindNext", desc := "()C" } : Jvm.MethodName) ({ cls := "ChannelMachine$Reader", name := "lookBehindNext", desc := "()C" } : Jvm.MethodName)) ∈ x_T := x_sel (q := (({ cls := "ChannelMachine$Reader", name := "lookBehindNext", desc := "()C" } : Jvm.MethodName), 9)) 4 (by decide +kernel) (by decide +kernel)
theorem kp_6 : (Jvm.Cond.selects "ChannelMachine$Reader" ({ cls := "ChannelMachine$Reader", name := "refuse", desc := "()Z" } : Jvm.MethodName) ({ cls := "ChannelMachine$Reader", name := "refuse", desc := "()Z" } : Jvm.MethodName)) ∈ x_T := x_sel (q := (({ cls := "ChannelMachine$Reader", name := "refuse", desc := "()Z" } : Jvm.MethodName), 9)) 6 (by decide +kernel) (by decide +kernel)
theorem d_Reader_start_0 : decode prog_8_method_3_code 0 = .ok (.aload_n 0, 1) := by decide +kernel
theorem d_Reader_start_1 : decode prog_8_method_3_code 1 = .ok (.aload_n 0, 1) := by decide +kernel
theorem d_Reader_start_2 : decode prog_8_method_3_code 2 = .ok (.getfield 19, 3) := by decide +kernel
theorem d_Reader_start_5 : decode prog_8_method_3_code 5 = .ok (.putfield 26, 3) := by decide +kernel
theorem d_Reader_start_8 : decode prog_8_method_3_code 8 = .ok (.aload_n 0, 1) := by decide +kernel
theorem d_Reader_start_9 : decode prog_8_method_3_code 9 = .ok (.iconst 0, 1) := by decide +kernel
theorem d_Reader_start_10 : decode prog_8_method_3_code 10 = .ok (.putfield 29, 3) := by decide +kernel
theorem d_Reader_start_13 : decode prog_8_method_3_code 13 = .ok (.aload_n 0, 1) := by decide +kernel
theorem d_Reader_start_14 : decode prog_8_method_3_code 14 = .ok (.iconst 0, 1) := by decide +kernel
theorem d_Reader_start_15 : decode prog_8_method_3_code 15 = .ok (.putfield 32, 3) := by decide +kernel
theorem d_Reader_start_18 : decode prog_8_method_3_code 18 = .ok (.aload_n 0, 1) := by decide +kernel
theorem d_Reader_start_19 : decode prog_8_method_3_code 19 = .ok (.iconst 0, 1) := by decide +kernel
theorem d_Reader_start_20 : decode prog_8_method_3_code 20 = .ok (.putfield 35, 3) := by decide +kernel
theorem d_Reader_start_23 : decode prog_8_method_3_code 23 = .ok (.return_, 1) := by decide +kernel
theorem d_Reader_look_0 : decode prog_8_method_5_code 0 = .ok (.aload_n 0, 1) := by decide +kernel
theorem d_Reader_look_1 : decode prog_8_method_5_code 1 = .ok (.getfield 29, 3) := by decide +kernel
theorem d_Reader_look_4 : decode prog_8_method_5_code 4 = .ok (.aload_n 0, 1) := by decide +kernel
theorem d_Reader_look_5 : decode prog_8_method_5_code 5 = .ok (.getfield 26, 3) := by decide +kernel
theorem d_Reader_look_8 : decode prog_8_method_5_code 8 = .ok (.if_icmp .ge 24, 3) := by decide +kernel
theorem d_Reader_look_11 : decode prog_8_method_5_code 11 = .ok (.aload_n 0, 1) := by decide +kernel
theorem d_Reader_look_12 : decode prog_8_method_5_code 12 = .ok (.getfield 29, 3) := by decide +kernel
theorem d_Reader_look_15 : decode prog_8_method_5_code 15 = .ok (.bipush 72, 2) := by decide +kernel
theorem d_Reader_look_17 : decode prog_8_method_5_code 17 = .ok (.if_icmp .ge 15, 3) := by decide +kernel
theorem d_Reader_look_20 : decode prog_8_method_5_code 20 = .ok (.aload_n 0, 1) := by decide +kernel
theorem d_Reader_look_21 : decode prog_8_method_5_code 21 = .ok (.getfield 9, 3) := by decide +kernel
theorem d_Reader_look_24 : decode prog_8_method_5_code 24 = .ok (.aload_n 0, 1) := by decide +kernel
theorem d_Reader_look_25 : decode prog_8_method_5_code 25 = .ok (.getfield 29, 3) := by decide +kernel
theorem d_Reader_look_28 : decode prog_8_method_5_code 28 = .ok (.caload, 1) := by decide +kernel
theorem d_Reader_look_29 : decode prog_8_method_5_code 29 = .ok (.goto 4, 3) := by decide +kernel
theorem d_Reader_look_32 : decode prog_8_method_5_code 32 = .ok (.iconst 0, 1) := by decide +kernel
theorem d_Reader_look_33 : decode prog_8_method_5_code 33 = .ok (.ireturn, 1) := by decide +kernel
theorem d_Reader_lookBehindNext_0 : decode prog_8_method_6_code 0 = .ok (.aload_n 0, 1) := by decide +kernel
theorem d_Reader_lookBehindNext_1 : decode prog_8_method_6_code 1 = .ok (.getfield 29, 3) := by decide +kernel
theorem d_Reader_lookBehindNext_4 : decode prog_8_method_6_code 4 = .ok (.iconst 1, 1) := by decide +kernel
theorem d_Reader_lookBehindNext_5 : decode prog_8_method_6_code 5 = .ok (.iadd, 1) := by decide +kernel
theorem d_Reader_lookBehindNext_6 : decode prog_8_method_6_code 6 = .ok (.aload_n 0, 1) := by decide +kernel
theorem d_Reader_lookBehindNext_7 : decode prog_8_method_6_code 7 = .ok (.getfield 26, 3) := by decide +kernel
theorem d_Reader_lookBehindNext_10 : decode prog_8_method_6_code 10 = .ok (.if_icmp .ge 28, 3) := by decide +kernel
theorem d_Reader_lookBehindNext_13 : decode prog_8_method_6_code 13 = .ok (.aload_n 0, 1) := by decide +kernel
theorem d_Reader_lookBehindNext_14 : decode prog_8_method_6_code 14 = .ok (.getfield 29, 3) := by decide +kernel
theorem d_Reader_lookBehindNext_17 : decode prog_8_method_6_code 17 = .ok (.iconst 1, 1) := by decide +kernel
theorem d_Reader_lookBehindNext_18 : decode prog_8_method_6_code 18 = .ok (.iadd, 1) := by decide +kernel
theorem d_Reader_lookBehindNext_19 : decode prog_8_method_6_code 19 = .ok (.bipush 72, 2) := by decide +kernel
theorem d_Reader_lookBehindNext_21 : decode prog_8_method_6_code 21 = .ok (.if_icmp .ge 17, 3) := by decide +kernel
theorem d_Reader_lookBehindNext_24 : decode prog_8_method_6_code 24 = .ok (.aload_n 0, 1) := by decide +kernel
theorem d_Reader_lookBehindNext_25 : decode prog_8_method_6_code 25 = .ok (.getfield 9, 3) := by decide +kernel
theorem d_Reader_lookBehindNext_28 : decode prog_8_method_6_code 28 = .ok (.aload_n 0, 1) := by decide +kernel
theorem d_Reader_lookBehindNext_29 : decode prog_8_method_6_code 29 = .ok (.getfield 29, 3) := by decide +kernel
theorem d_Reader_lookBehindNext_32 : decode prog_8_method_6_code 32 = .ok (.iconst 1, 1) := by decide +kernel
theorem d_Reader_lookBehindNext_33 : decode prog_8_method_6_code 33 = .ok (.iadd, 1) := by decide +kernel
theorem d_Reader_lookBehindNext_34 : decode prog_8_method_6_code 34 = .ok (.caload, 1) := by decide +kernel
theorem d_Reader_lookBehindNext_35 : decode prog_8_method_6_code 35 = .ok (.goto 4, 3) := by decide +kernel
theorem d_Reader_lookBehindNext_38 : decode prog_8_method_6_code 38 = .ok (.iconst 0, 1) := by decide +kernel
theorem d_Reader_lookBehindNext_39 : decode prog_8_method_6_code 39 = .ok (.ireturn, 1) := by decide +kernel
theorem d_Reader_refuse_0 : decode prog_8_method_7_code 0 = .ok (.aload_n 0, 1) := by decide +kernel
theorem d_Reader_refuse_1 : decode prog_8_method_7_code 1 = .ok (.aload_n 0, 1) := by decide +kernel
theorem d_Reader_refuse_2 : decode prog_8_method_7_code 2 = .ok (.getfield 32, 3) := by decide +kernel
theorem d_Reader_refuse_5 : decode prog_8_method_7_code 5 = .ok (.aload_n 0, 1) := by decide +kernel
theorem d_Reader_refuse_6 : decode prog_8_method_7_code 6 = .ok (.getfield 29, 3) := by decide +kernel
theorem d_Reader_refuse_9 : decode prog_8_method_7_code 9 = .ok (.invokestatic 46, 3) := by decide +kernel
theorem d_Reader_refuse_12 : decode prog_8_method_7_code 12 = .ok (.putfield 32, 3) := by decide +kernel
theorem d_Reader_refuse_15 : decode prog_8_method_7_code 15 = .ok (.iconst 0, 1) := by decide +kernel
theorem d_Reader_refuse_16 : decode prog_8_method_7_code 16 = .ok (.ireturn, 1) := by decide +kernel
theorem d_Reader_isVariable_0 : decode prog_8_method_11_code 0 = .ok (.iload_n 0, 1) := by decide +kernel
theorem d_Reader_isVariable_1 : decode prog_8_method_11_code 1 = .ok (.bipush 97, 2) := by decide +kernel
theorem d_Reader_isVariable_3 : decode prog_8_method_11_code 3 = .ok (.if_icmp .lt 13, 3) := by decide +kernel
theorem d_Reader_isVariable_6 : decode prog_8_method_11_code 6 = .ok (.iload_n 0, 1) := by decide +kernel
theorem d_Reader_isVariable_7 : decode prog_8_method_11_code 7 = .ok (.bipush 102, 2) := by decide +kernel
theorem d_Reader_isVariable_9 : decode prog_8_method_11_code 9 = .ok (.if_icmp .gt 7, 3) := by decide +kernel
theorem d_Reader_isVariable_12 : decode prog_8_method_11_code 12 = .ok (.iconst 1, 1) := by decide +kernel
theorem d_Reader_isVariable_13 : decode prog_8_method_11_code 13 = .ok (.goto 4, 3) := by decide +kernel
theorem d_Reader_isVariable_16 : decode prog_8_method_11_code 16 = .ok (.iconst 0, 1) := by decide +kernel
theorem d_Reader_isVariable_17 : decode prog_8_method_11_code 17 = .ok (.ireturn, 1) := by decide +kernel
theorem d_Reader_channelOf_0 : decode prog_8_method_12_code 0 = .ok (.iload_n 0, 1) := by decide +kernel
theorem d_Reader_channelOf_1 : decode prog_8_method_12_code 1 = .ok (.bipush 73, 2) := by decide +kernel
theorem d_Reader_channelOf_3 : decode prog_8_method_12_code 3 = .ok (.if_icmp .ne 5, 3) := by decide +kernel
theorem d_Reader_channelOf_6 : decode prog_8_method_12_code 6 = .ok (.iconst 4, 1) := by decide +kernel
theorem d_Reader_channelOf_7 : decode prog_8_method_12_code 7 = .ok (.ireturn, 1) := by decide +kernel
theorem d_Reader_channelOf_8 : decode prog_8_method_12_code 8 = .ok (.iload_n 0, 1) := by decide +kernel
theorem d_Reader_channelOf_9 : decode prog_8_method_12_code 9 = .ok (.bipush 79, 2) := by decide +kernel
theorem d_Reader_channelOf_11 : decode prog_8_method_12_code 11 = .ok (.if_icmp .ne 5, 3) := by decide +kernel
theorem d_Reader_channelOf_14 : decode prog_8_method_12_code 14 = .ok (.iconst 5, 1) := by decide +kernel
theorem d_Reader_channelOf_15 : decode prog_8_method_12_code 15 = .ok (.ireturn, 1) := by decide +kernel
theorem d_Reader_channelOf_16 : decode prog_8_method_12_code 16 = .ok (.iload_n 0, 1) := by decide +kernel
theorem d_Reader_channelOf_17 : decode prog_8_method_12_code 17 = .ok (.bipush 65, 2) := by decide +kernel
theorem d_Reader_channelOf_19 : decode prog_8_method_12_code 19 = .ok (.if_icmp .lt 16, 3) := by decide +kernel
theorem d_Reader_channelOf_22 : decode prog_8_method_12_code 22 = .ok (.iload_n 0, 1) := by decide +kernel
theorem d_Reader_channelOf_23 : decode prog_8_method_12_code 23 = .ok (.bipush 68, 2) := by decide +kernel
theorem d_Reader_channelOf_25 : decode prog_8_method_12_code 25 = .ok (.if_icmp .gt 10, 3) := by decide +kernel
theorem d_Reader_channelOf_28 : decode prog_8_method_12_code 28 = .ok (.iload_n 0, 1) := by decide +kernel
theorem d_Reader_channelOf_29 : decode prog_8_method_12_code 29 = .ok (.bipush 65, 2) := by decide +kernel
theorem d_Reader_channelOf_31 : decode prog_8_method_12_code 31 = .ok (.isub, 1) := by decide +kernel
theorem d_Reader_channelOf_32 : decode prog_8_method_12_code 32 = .ok (.goto 4, 3) := by decide +kernel
theorem d_Reader_channelOf_35 : decode prog_8_method_12_code 35 = .ok (.iconst (-1), 1) := by decide +kernel
theorem d_Reader_channelOf_36 : decode prog_8_method_12_code 36 = .ok (.ireturn, 1) := by decide +kernel
theorem d_Reader_kindOf_0 : decode prog_8_method_15_code 0 = .ok (.iload_n 0, 1) := by decide +kernel
theorem d_Reader_kindOf_1 : decode prog_8_method_15_code 1 = .ok (.lookupswitch 131 #[(35, 95), (40, 99), (46, 91), (63, 115), (64, 119), (73, 127), (79, 123), (91, 107), (94, 111), (123, 103)], 91) := by decide +kernel
theorem d_Reader_kindOf_92 : decode prog_8_method_15_code 92 = .ok (.getstatic 140, 3) := by decide +kernel
theorem d_Reader_kindOf_95 : decode prog_8_method_15_code 95 = .ok (.areturn, 1) := by decide +kernel
theorem d_Reader_kindOf_96 : decode prog_8_method_15_code 96 = .ok (.getstatic 143, 3) := by decide +kernel
theorem d_Reader_kindOf_99 : decode prog_8_method_15_code 99 = .ok (.areturn, 1) := by decide +kernel
theorem d_Reader_kindOf_100 : decode prog_8_method_15_code 100 = .ok (.getstatic 146, 3) := by decide +kernel
theorem d_Reader_kindOf_103 : decode prog_8_method_15_code 103 = .ok (.areturn, 1) := by decide +kernel
theorem d_Reader_kindOf_104 : decode prog_8_method_15_code 104 = .ok (.getstatic 149, 3) := by decide +kernel
theorem d_Reader_kindOf_107 : decode prog_8_method_15_code 107 = .ok (.areturn, 1) := by decide +kernel
theorem d_Reader_kindOf_108 : decode prog_8_method_15_code 108 = .ok (.getstatic 152, 3) := by decide +kernel
theorem d_Reader_kindOf_111 : decode prog_8_method_15_code 111 = .ok (.areturn, 1) := by decide +kernel
theorem d_Reader_kindOf_112 : decode prog_8_method_15_code 112 = .ok (.getstatic 120, 3) := by decide +kernel
theorem d_Reader_kindOf_115 : decode prog_8_method_15_code 115 = .ok (.areturn, 1) := by decide +kernel
theorem d_Reader_kindOf_116 : decode prog_8_method_15_code 116 = .ok (.getstatic 123, 3) := by decide +kernel
theorem d_Reader_kindOf_119 : decode prog_8_method_15_code 119 = .ok (.areturn, 1) := by decide +kernel
theorem d_Reader_kindOf_120 : decode prog_8_method_15_code 120 = .ok (.getstatic 155, 3) := by decide +kernel
theorem d_Reader_kindOf_123 : decode prog_8_method_15_code 123 = .ok (.areturn, 1) := by decide +kernel
theorem d_Reader_kindOf_124 : decode prog_8_method_15_code 124 = .ok (.getstatic 158, 3) := by decide +kernel
theorem d_Reader_kindOf_127 : decode prog_8_method_15_code 127 = .ok (.areturn, 1) := by decide +kernel
theorem d_Reader_kindOf_128 : decode prog_8_method_15_code 128 = .ok (.getstatic 161, 3) := by decide +kernel
theorem d_Reader_kindOf_131 : decode prog_8_method_15_code 131 = .ok (.areturn, 1) := by decide +kernel
theorem d_Reader_kindOf_132 : decode prog_8_method_15_code 132 = .ok (.iload_n 0, 1) := by decide +kernel
theorem d_Reader_kindOf_133 : decode prog_8_method_15_code 133 = .ok (.invokestatic 60, 3) := by decide +kernel
theorem d_Reader_kindOf_136 : decode prog_8_method_15_code 136 = .ok (.ifCond .eq 7, 3) := by decide +kernel
theorem d_Reader_kindOf_139 : decode prog_8_method_15_code 139 = .ok (.getstatic 137, 3) := by decide +kernel
theorem d_Reader_kindOf_142 : decode prog_8_method_15_code 142 = .ok (.areturn, 1) := by decide +kernel
theorem d_Reader_kindOf_143 : decode prog_8_method_15_code 143 = .ok (.iload_n 0, 1) := by decide +kernel
theorem d_Reader_kindOf_144 : decode prog_8_method_15_code 144 = .ok (.invokestatic 130, 3) := by decide +kernel
theorem d_Reader_kindOf_147 : decode prog_8_method_15_code 147 = .ok (.iconst (-1), 1) := by decide +kernel
theorem d_Reader_kindOf_148 : decode prog_8_method_15_code 148 = .ok (.if_icmp .ne 5, 3) := by decide +kernel
theorem d_Reader_kindOf_151 : decode prog_8_method_15_code 151 = .ok (.aconst_null, 1) := by decide +kernel
theorem d_Reader_kindOf_152 : decode prog_8_method_15_code 152 = .ok (.areturn, 1) := by decide +kernel
theorem d_Reader_kindOf_153 : decode prog_8_method_15_code 153 = .ok (.iload_n 1, 1) := by decide +kernel
theorem d_Reader_kindOf_154 : decode prog_8_method_15_code 154 = .ok (.bipush 33, 2) := by decide +kernel
theorem d_Reader_kindOf_156 : decode prog_8_method_15_code 156 = .ok (.if_icmp .ne 9, 3) := by decide +kernel
theorem d_Reader_kindOf_159 : decode prog_8_method_15_code 159 = .ok (.getstatic 158, 3) := by decide +kernel
theorem d_Reader_kindOf_162 : decode prog_8_method_15_code 162 = .ok (.goto 6, 3) := by decide +kernel
theorem d_Reader_kindOf_165 : decode prog_8_method_15_code 165 = .ok (.getstatic 161, 3) := by decide +kernel
theorem d_Reader_kindOf_168 : decode prog_8_method_15_code 168 = .ok (.areturn, 1) := by decide +kernel
theorem d_Reader_begin_0 : decode prog_8_method_14_code 0 = .ok (.aload_n 0, 1) := by decide +kernel
theorem d_Reader_begin_1 : decode prog_8_method_14_code 1 = .ok (.invokevirtual 52, 3) := by decide +kernel
theorem d_Reader_begin_4 : decode prog_8_method_14_code 4 = .ok (.istore_n 3, 1) := by decide +kernel
theorem d_Reader_begin_5 : decode prog_8_method_14_code 5 = .ok (.iload_n 3, 1) := by decide +kernel
theorem d_Reader_begin_6 : decode prog_8_method_14_code 6 = .ok (.aload_n 0, 1) := by decide +kernel
theorem d_Reader_begin_7 : decode prog_8_method_14_code 7 = .ok (.invokevirtual 113, 3) := by decide +kernel
theorem d_Reader_begin_10 : decode prog_8_method_14_code 10 = .ok (.invokestatic 116, 3) := by decide +kernel
theorem d_Reader_begin_13 : decode prog_8_method_14_code 13 = .ok (.astore 4, 2) := by decide +kernel
theorem d_Reader_begin_15 : decode prog_8_method_14_code 15 = .ok (.aload 4, 2) := by decide +kernel
theorem d_Reader_begin_17 : decode prog_8_method_14_code 17 = .ok (.getstatic 120, 3) := by decide +kernel
theorem d_Reader_begin_20 : decode prog_8_method_14_code 20 = .ok (.if_acmp .eq 11, 3) := by decide +kernel
theorem d_Reader_begin_23 : decode prog_8_method_14_code 23 = .ok (.aload 4, 2) := by decide +kernel
theorem d_Reader_begin_25 : decode prog_8_method_14_code 25 = .ok (.getstatic 123, 3) := by decide +kernel
theorem d_Reader_begin_28 : decode prog_8_method_14_code 28 = .ok (.if_acmp .ne 7, 3) := by decide +kernel
theorem d_Reader_begin_31 : decode prog_8_method_14_code 31 = .ok (.iconst 1, 1) := by decide +kernel
theorem d_Reader_begin_32 : decode prog_8_method_14_code 32 = .ok (.goto 4, 3) := by decide +kernel
theorem d_Reader_begin_35 : decode prog_8_method_14_code 35 = .ok (.iconst 0, 1) := by decide +kernel
theorem d_Reader_begin_36 : decode prog_8_method_14_code 36 = .ok (.istore 5, 2) := by decide +kernel
theorem d_Reader_begin_38 : decode prog_8_method_14_code 38 = .ok (.aload 4, 2) := by decide +kernel
theorem d_Reader_begin_40 : decode prog_8_method_14_code 40 = .ok (.ifnull 14, 3) := by decide +kernel
theorem d_Reader_begin_43 : decode prog_8_method_14_code 43 = .ok (.iload 5, 2) := by decide +kernel
theorem d_Reader_begin_45 : decode prog_8_method_14_code 45 = .ok (.ifCond .eq 11, 3) := by decide +kernel
theorem d_Reader_begin_48 : decode prog_8_method_14_code 48 = .ok (.iload_n 2, 1) := by decide +kernel
theorem d_Reader_begin_49 : decode prog_8_method_14_code 49 = .ok (.bipush 7, 2) := by decide +kernel
theorem d_Reader_begin_51 : decode prog_8_method_14_code 51 = .ok (.if_icmp .ne 5, 3) := by decide +kernel
theorem d_Reader_begin_54 : decode prog_8_method_14_code 54 = .ok (.aconst_null, 1) := by decide +kernel
theorem d_Reader_begin_55 : decode prog_8_method_14_code 55 = .ok (.areturn, 1) := by decide +kernel
theorem d_Reader_begin_56 : decode prog_8_method_14_code 56 = .ok (.aload_n 0, 1) := by decide +kernel
theorem d_Reader_begin_57 : decode prog_8_method_14_code 57 = .ok (.aload 4, 2) := by decide +kernel
theorem d_Reader_begin_59 : decode prog_8_method_14_code 59 = .ok (.aload_n 1, 1) := by decide +kernel
theorem d_Reader_begin_60 : decode prog_8_method_14_code 60 = .ok (.invokevirtual 126, 3) := by decide +kernel
theorem d_Reader_begin_63 : decode prog_8_method_14_code 63 = .ok (.astore 6, 2) := by decide +kernel
theorem d_Reader_begin_65 : decode prog_8_method_14_code 65 = .ok (.aload 6, 2) := by decide +kernel
theorem d_Reader_begin_67 : decode prog_8_method_14_code 67 = .ok (.iload_n 3, 1) := by decide +kernel
theorem d_Reader_begin_68 : decode prog_8_method_14_code 68 = .ok (.invokestatic 130, 3) := by decide +kernel
theorem d_Reader_begin_71 : decode prog_8_method_14_code 71 = .ok (.putfield 134, 3) := by decide +kernel
theorem d_Reader_begin_74 : decode prog_8_method_14_code 74 = .ok (.aload 4, 2) := by decide +kernel
theorem d_Reader_begin_76 : decode prog_8_method_14_code 76 = .ok (.getstatic 137, 3) := by decide +kernel
theorem d_Reader_begin_79 : decode prog_8_method_14_code 79 = .ok (.if_acmp .ne 12, 3) := by decide +kernel
theorem d_Reader_begin_82 : decode prog_8_method_14_code 82 = .ok (.aload 6, 2) := by decide +kernel
theorem d_Reader_begin_84 : decode prog_8_method_14_code 84 = .ok (.iload_n 3, 1) := by decide +kernel
theorem d_Reader_begin_85 : decode prog_8_method_14_code 85 = .ok (.bipush 97, 2) := by decide +kernel
theorem d_Reader_begin_87 : decode prog_8_method_14_code 87 = .ok (.isub, 1) := by decide +kernel
theorem d_Reader_begin_88 : decode prog_8_method_14_code 88 = .ok (.putfield 95, 3) := by decide +kernel
theorem d_Reader_begin_91 : decode prog_8_method_14_code 91 = .ok (.aload_n 0, 1) := by decide +kernel
theorem d_Reader_begin_92 : decode prog_8_method_14_code 92 = .ok (.dup, 1) := by decide +kernel
theorem d_Reader_begin_93 : decode prog_8_method_14_code 93 = .ok (.getfield 29, 3) := by decide +kernel
theorem d_Reader_begin_96 : decode prog_8_method_14_code 96 = .ok (.iconst 1, 1) := by decide +kernel
theorem d_Reader_begin_97 : decode prog_8_method_14_code 97 = .ok (.iadd, 1) := by decide +kernel
theorem d_Reader_begin_98 : decode prog_8_method_14_code 98 = .ok (.putfield 29, 3) := by decide +kernel
theorem d_Reader_begin_101 : decode prog_8_method_14_code 101 = .ok (.aload 6, 2) := by decide +kernel
theorem d_Reader_begin_103 : decode prog_8_method_14_code 103 = .ok (.areturn, 1) := by decide +kernel
theorem d_Reader_process_0 : decode prog_8_method_13_code 0 = .ok (.iload_n 2, 1) := by decide +kernel
theorem d_Reader_process_1 : decode prog_8_method_13_code 1 = .ok (.bipush 7, 2) := by decide +kernel
theorem d_Reader_process_3 : decode prog_8_method_13_code 3 = .ok (.if_icmp .le 7, 3) := by decide +kernel
theorem d_Reader_process_6 : decode prog_8_method_13_code 6 = .ok (.aconst_null, 1) := by decide +kernel
theorem d_Reader_process_7 : decode prog_8_method_13_code 7 = .ok (.goto 9, 3) := by decide +kernel
theorem d_Reader_process_10 : decode prog_8_method_13_code 10 = .ok (.aload_n 0, 1) := by decide +kernel
theorem d_Reader_process_11 : decode prog_8_method_13_code 11 = .ok (.aload_n 1, 1) := by decide +kernel
theorem d_Reader_process_12 : decode prog_8_method_13_code 12 = .ok (.iload_n 2, 1) := by decide +kernel
theorem d_Reader_process_13 : decode prog_8_method_13_code 13 = .ok (.invokevirtual 63, 3) := by decide +kernel
theorem d_Reader_process_16 : decode prog_8_method_13_code 16 = .ok (.astore 4, 2) := by decide +kernel
theorem d_Reader_process_18 : decode prog_8_method_13_code 18 = .ok (.aload 4, 2) := by decide +kernel
theorem d_Reader_process_20 : decode prog_8_method_13_code 20 = .ok (.ifnonnull 8, 3) := by decide +kernel
theorem d_Reader_process_23 : decode prog_8_method_13_code 23 = .ok (.aload_n 0, 1) := by decide +kernel
theorem d_Reader_process_24 : decode prog_8_method_13_code 24 = .ok (.invokevirtual 42, 3) := by decide +kernel
theorem d_Reader_process_27 : decode prog_8_method_13_code 27 = .ok (.ireturn, 1) := by decide +kernel
theorem d_Reader_process_28 : decode prog_8_method_13_code 28 = .ok (.getstatic 67, 3) := by decide +kernel
theorem d_Reader_process_31 : decode prog_8_method_13_code 31 = .ok (.aload 4, 2) := by decide +kernel
theorem d_Reader_process_33 : decode prog_8_method_13_code 33 = .ok (.getfield 72, 3) := by decide +kernel
theorem d_Reader_process_36 : decode prog_8_method_13_code 36 = .ok (.invokevirtual 78, 3) := by decide +kernel
theorem d_Reader_process_39 : decode prog_8_method_13_code 39 = .ok (.iaload, 1) := by decide +kernel
theorem d_Reader_process_40 : decode prog_8_method_13_code 40 = .ok (.tableswitch 302 1 9 #[52, 81, 110, 122, 146, 173, 199, 224, 252], 52) := by decide +kernel
theorem d_Reader_process_92 : decode prog_8_method_13_code 92 = .ok (.aload_n 0, 1) := by decide +kernel
theorem d_Reader_process_93 : decode prog_8_method_13_code 93 = .ok (.bipush 58, 2) := by decide +kernel
theorem d_Reader_process_95 : decode prog_8_method_13_code 95 = .ok (.invokevirtual 56, 3) := by decide +kernel
theorem d_Reader_process_98 : decode prog_8_method_13_code 98 = .ok (.ifCond .eq 21, 3) := by decide +kernel
theorem d_Reader_process_101 : decode prog_8_method_13_code 101 = .ok (.aload_n 0, 1) := by decide +kernel
theorem d_Reader_process_102 : decode prog_8_method_13_code 102 = .ok (.aload 4, 2) := by decide +kernel
theorem d_Reader_process_104 : decode prog_8_method_13_code 104 = .ok (.aload_n 0, 1) := by decide +kernel
theorem d_Reader_process_105 : decode prog_8_method_13_code 105 = .ok (.iload_n 3, 1) := by decide +kernel
theorem d_Reader_process_106 : decode prog_8_method_13_code 106 = .ok (.invokevirtual 84, 3) := by decide +kernel
theorem d_Reader_process_109 : decode prog_8_method_13_code 109 = .ok (.invokevirtual 88, 3) := by decide +kernel
theorem d_Reader_process_112 : decode prog_8_method_13_code 112 = .ok (.ifCond .eq 7, 3) := by decide +kernel
theorem d_Reader_process_115 : decode prog_8_method_13_code 115 = .ok (.iconst 1, 1) := by decide +kernel
theorem d_Reader_process_116 : decode prog_8_method_13_code 116 = .ok (.goto 4, 3) := by decide +kernel
theorem d_Reader_process_119 : decode prog_8_method_13_code 119 = .ok (.iconst 0, 1) := by decide +kernel
theorem d_Reader_process_120 : decode prog_8_method_13_code 120 = .ok (.ireturn, 1) := by decide +kernel
theorem d_Reader_process_121 : decode prog_8_method_13_code 121 = .ok (.aload_n 0, 1) := by decide +kernel
theorem d_Reader_process_122 : decode prog_8_method_13_code 122 = .ok (.bipush 33, 2) := by decide +kernel
theorem d_Reader_process_124 : decode prog_8_method_13_code 124 = .ok (.invokevirtual 56, 3) := by decide +kernel
theorem d_Reader_process_127 : decode prog_8_method_13_code 127 = .ok (.ifCond .eq 21, 3) := by decide +kernel
theorem d_Reader_process_130 : decode prog_8_method_13_code 130 = .ok (.aload_n 0, 1) := by decide +kernel
theorem d_Reader_process_131 : decode prog_8_method_13_code 131 = .ok (.aload 4, 2) := by decide +kernel
theorem d_Reader_process_133 : decode prog_8_method_13_code 133 = .ok (.aload_n 0, 1) := by decide +kernel
theorem d_Reader_process_134 : decode prog_8_method_13_code 134 = .ok (.iload_n 3, 1) := by decide +kernel
theorem d_Reader_process_135 : decode prog_8_method_13_code 135 = .ok (.invokevirtual 84, 3) := by decide +kernel
theorem d_Reader_process_138 : decode prog_8_method_13_code 138 = .ok (.invokevirtual 88, 3) := by decide +kernel
theorem d_Reader_process_141 : decode prog_8_method_13_code 141 = .ok (.ifCond .eq 7, 3) := by decide +kernel
theorem d_Reader_process_144 : decode prog_8_method_13_code 144 = .ok (.iconst 1, 1) := by decide +kernel
theorem d_Reader_process_145 : decode prog_8_method_13_code 145 = .ok (.goto 4, 3) := by decide +kernel
theorem d_Reader_process_148 : decode prog_8_method_13_code 148 = .ok (.iconst 0, 1) := by decide +kernel
theorem d_Reader_process_149 : decode prog_8_method_13_code 149 = .ok (.ireturn, 1) := by decide +kernel
theorem d_Reader_process_150 : decode prog_8_method_13_code 150 = .ok (.aload_n 0, 1) := by decide +kernel
theorem d_Reader_process_151 : decode prog_8_method_13_code 151 = .ok (.aload 4, 2) := by decide +kernel
theorem d_Reader_process_153 : decode prog_8_method_13_code 153 = .ok (.aload_n 0, 1) := by decide +kernel
theorem d_Reader_process_154 : decode prog_8_method_13_code 154 = .ok (.iload_n 3, 1) := by decide +kernel
theorem d_Reader_process_155 : decode prog_8_method_13_code 155 = .ok (.invokevirtual 84, 3) := by decide +kernel
theorem d_Reader_process_158 : decode prog_8_method_13_code 158 = .ok (.invokevirtual 88, 3) := by decide +kernel
theorem d_Reader_process_161 : decode prog_8_method_13_code 161 = .ok (.ireturn, 1) := by decide +kernel
theorem d_Reader_process_162 : decode prog_8_method_13_code 162 = .ok (.aload 4, 2) := by decide +kernel
theorem d_Reader_process_164 : decode prog_8_method_13_code 164 = .ok (.aload_n 0, 1) := by decide +kernel
theorem d_Reader_process_165 : decode prog_8_method_13_code 165 = .ok (.invokevirtual 92, 3) := by decide +kernel
theorem d_Reader_process_168 : decode prog_8_method_13_code 168 = .ok (.putfield 95, 3) := by decide +kernel
theorem d_Reader_process_171 : decode prog_8_method_13_code 171 = .ok (.aload 4, 2) := by decide +kernel
theorem d_Reader_process_173 : decode prog_8_method_13_code 173 = .ok (.getfield 95, 3) := by decide +kernel
theorem d_Reader_process_176 : decode prog_8_method_13_code 176 = .ok (.iconst (-1), 1) := by decide +kernel
theorem d_Reader_process_177 : decode prog_8_method_13_code 177 = .ok (.if_icmp .eq 7, 3) := by decide +kernel
theorem d_Reader_process_180 : decode prog_8_method_13_code 180 = .ok (.iconst 1, 1) := by decide +kernel
theorem d_Reader_process_181 : decode prog_8_method_13_code 181 = .ok (.goto 4, 3) := by decide +kernel
theorem d_Reader_process_184 : decode prog_8_method_13_code 184 = .ok (.iconst 0, 1) := by decide +kernel
theorem d_Reader_process_185 : decode prog_8_method_13_code 185 = .ok (.ireturn, 1) := by decide +kernel
theorem d_Reader_process_186 : decode prog_8_method_13_code 186 = .ok (.aload_n 0, 1) := by decide +kernel
theorem d_Reader_process_187 : decode prog_8_method_13_code 187 = .ok (.aload 4, 2) := by decide +kernel
theorem d_Reader_process_189 : decode prog_8_method_13_code 189 = .ok (.iload_n 2, 1) := by decide +kernel
theorem d_Reader_process_190 : decode prog_8_method_13_code 190 = .ok (.bipush 72, 2) := by decide +kernel
theorem d_Reader_process_192 : decode prog_8_method_13_code 192 = .ok (.invokevirtual 98, 3) := by decide +kernel
theorem d_Reader_process_195 : decode prog_8_method_13_code 195 = .ok (.ifCond .eq 16, 3) := by decide +kernel
theorem d_Reader_process_198 : decode prog_8_method_13_code 198 = .ok (.aload_n 0, 1) := by decide +kernel
theorem d_Reader_process_199 : decode prog_8_method_13_code 199 = .ok (.bipush 41, 2) := by decide +kernel
theorem d_Reader_process_201 : decode prog_8_method_13_code 201 = .ok (.invokevirtual 56, 3) := by decide +kernel
theorem d_Reader_process_204 : decode prog_8_method_13_code 204 = .ok (.ifCond .eq 7, 3) := by decide +kernel
theorem d_Reader_process_207 : decode prog_8_method_13_code 207 = .ok (.iconst 1, 1) := by decide +kernel
theorem d_Reader_process_208 : decode prog_8_method_13_code 208 = .ok (.goto 4, 3) := by decide +kernel
theorem d_Reader_process_211 : decode prog_8_method_13_code 211 = .ok (.iconst 0, 1) := by decide +kernel
theorem d_Reader_process_212 : decode prog_8_method_13_code 212 = .ok (.ireturn, 1) := by decide +kernel
theorem d_Reader_process_213 : decode prog_8_method_13_code 213 = .ok (.aload_n 0, 1) := by decide +kernel
theorem d_Reader_process_214 : decode prog_8_method_13_code 214 = .ok (.aload 4, 2) := by decide +kernel
theorem d_Reader_process_216 : decode prog_8_method_13_code 216 = .ok (.iload_n 2, 1) := by decide +kernel
theorem d_Reader_process_217 : decode prog_8_method_13_code 217 = .ok (.iconst 4, 1) := by decide +kernel
theorem d_Reader_process_218 : decode prog_8_method_13_code 218 = .ok (.invokevirtual 98, 3) := by decide +kernel
theorem d_Reader_process_221 : decode prog_8_method_13_code 221 = .ok (.ifCond .eq 16, 3) := by decide +kernel
theorem d_Reader_process_224 : decode prog_8_method_13_code 224 = .ok (.aload_n 0, 1) := by decide +kernel
theorem d_Reader_process_225 : decode prog_8_method_13_code 225 = .ok (.bipush 125, 2) := by decide +kernel
theorem d_Reader_process_227 : decode prog_8_method_13_code 227 = .ok (.invokevirtual 56, 3) := by decide +kernel
theorem d_Reader_process_230 : decode prog_8_method_13_code 230 = .ok (.ifCond .eq 7, 3) := by decide +kernel
theorem d_Reader_process_233 : decode prog_8_method_13_code 233 = .ok (.iconst 1, 1) := by decide +kernel
theorem d_Reader_process_234 : decode prog_8_method_13_code 234 = .ok (.goto 4, 3) := by decide +kernel
theorem d_Reader_process_237 : decode prog_8_method_13_code 237 = .ok (.iconst 0, 1) := by decide +kernel
theorem d_Reader_process_238 : decode prog_8_method_13_code 238 = .ok (.ireturn, 1) := by decide +kernel
theorem d_Reader_process_239 : decode prog_8_method_13_code 239 = .ok (.aload_n 0, 1) := by decide +kernel
theorem d_Reader_process_240 : decode prog_8_method_13_code 240 = .ok (.aload 4, 2) := by decide +kernel
theorem d_Reader_process_242 : decode prog_8_method_13_code 242 = .ok (.iload_n 2, 1) := by decide +kernel
theorem d_Reader_process_243 : decode prog_8_method_13_code 243 = .ok (.invokevirtual 102, 3) := by decide +kernel
theorem d_Reader_process_246 : decode prog_8_method_13_code 246 = .ok (.ifCond .eq 16, 3) := by decide +kernel
theorem d_Reader_process_249 : decode prog_8_method_13_code 249 = .ok (.aload_n 0, 1) := by decide +kernel
theorem d_Reader_process_250 : decode prog_8_method_13_code 250 = .ok (.bipush 93, 2) := by decide +kernel
theorem d_Reader_process_252 : decode prog_8_method_13_code 252 = .ok (.invokevirtual 56, 3) := by decide +kernel
theorem d_Reader_process_255 : decode prog_8_method_13_code 255 = .ok (.ifCond .eq 7, 3) := by decide +kernel
theorem d_Reader_process_258 : decode prog_8_method_13_code 258 = .ok (.iconst 1, 1) := by decide +kernel
theorem d_Reader_process_259 : decode prog_8_method_13_code 259 = .ok (.goto 4, 3) := by decide +kernel
theorem d_Reader_process_262 : decode prog_8_method_13_code 262 = .ok (.iconst 0, 1) := by decide +kernel
theorem d_Reader_process_263 : decode prog_8_method_13_code 263 = .ok (.ireturn, 1) := by decide +kernel
theorem d_Reader_process_264 : decode prog_8_method_13_code 264 = .ok (.aload_n 0, 1) := by decide +kernel
theorem d_Reader_process_265 : decode prog_8_method_13_code 265 = .ok (.aload 4, 2) := by decide +kernel
theorem d_Reader_process_267 : decode prog_8_method_13_code 267 = .ok (.invokevirtual 105, 3) := by decide +kernel
theorem d_Reader_process_270 : decode prog_8_method_13_code 270 = .ok (.ifCond .eq 20, 3) := by decide +kernel
theorem d_Reader_process_273 : decode prog_8_method_13_code 273 = .ok (.aload_n 0, 1) := by decide +kernel
theorem d_Reader_process_274 : decode prog_8_method_13_code 274 = .ok (.aload 4, 2) := by decide +kernel
theorem d_Reader_process_276 : decode prog_8_method_13_code 276 = .ok (.iload_n 2, 1) := by decide +kernel
theorem d_Reader_process_277 : decode prog_8_method_13_code 277 = .ok (.iconst 1, 1) := by decide +kernel
theorem d_Reader_process_278 : decode prog_8_method_13_code 278 = .ok (.iadd, 1) := by decide +kernel
theorem d_Reader_process_279 : decode prog_8_method_13_code 279 = .ok (.iload_n 3, 1) := by decide +kernel
theorem d_Reader_process_280 : decode prog_8_method_13_code 280 = .ok (.invokevirtual 109, 3) := by decide +kernel
theorem d_Reader_process_283 : decode prog_8_method_13_code 283 = .ok (.ifCond .eq 7, 3) := by decide +kernel
theorem d_Reader_process_286 : decode prog_8_method_13_code 286 = .ok (.iconst 1, 1) := by decide +kernel
theorem d_Reader_process_287 : decode prog_8_method_13_code 287 = .ok (.goto 4, 3) := by decide +kernel
theorem d_Reader_process_290 : decode prog_8_method_13_code 290 = .ok (.iconst 0, 1) := by decide +kernel
theorem d_Reader_process_291 : decode prog_8_method_13_code 291 = .ok (.ireturn, 1) := by decide +kernel
theorem d_Reader_process_292 : decode prog_8_method_13_code 292 = .ok (.aload_n 0, 1) := by decide +kernel
theorem d_Reader_process_293 : decode prog_8_method_13_code 293 = .ok (.aload 4, 2) := by decide +kernel
theorem d_Reader_process_295 : decode prog_8_method_13_code 295 = .ok (.invokevirtual 105, 3) := by decide +kernel
theorem d_Reader_process_298 : decode prog_8_method_13_code 298 = .ok (.ifCond .eq 42, 3) := by decide +kernel
theorem d_Reader_process_301 : decode prog_8_method_13_code 301 = .ok (.aload_n 0, 1) := by decide +kernel
theorem d_Reader_process_302 : decode prog_8_method_13_code 302 = .ok (.aload 4, 2) := by decide +kernel
theorem d_Reader_process_304 : decode prog_8_method_13_code 304 = .ok (.iload_n 2, 1) := by decide +kernel
theorem d_Reader_process_305 : decode prog_8_method_13_code 305 = .ok (.iconst 1, 1) := by decide +kernel
theorem d_Reader_process_306 : decode prog_8_method_13_code 306 = .ok (.iadd, 1) := by decide +kernel
theorem d_Reader_process_307 : decode prog_8_method_13_code 307 = .ok (.iconst 0, 1) := by decide +kernel
theorem d_Reader_process_308 : decode prog_8_method_13_code 308 = .ok (.invokevirtual 109, 3) := by decide +kernel
theorem d_Reader_process_311 : decode prog_8_method_13_code 311 = .ok (.ifCond .eq 29, 3) := by decide +kernel
theorem d_Reader_process_314 : decode prog_8_method_13_code 314 = .ok (.aload_n 0, 1) := by decide +kernel
theorem d_Reader_process_315 : decode prog_8_method_13_code 315 = .ok (.bipush 44, 2) := by decide +kernel
theorem d_Reader_process_317 : decode prog_8_method_13_code 317 = .ok (.invokevirtual 56, 3) := by decide +kernel
theorem d_Reader_process_320 : decode prog_8_method_13_code 320 = .ok (.ifCond .eq 20, 3) := by decide +kernel
theorem d_Reader_process_323 : decode prog_8_method_13_code 323 = .ok (.aload_n 0, 1) := by decide +kernel
theorem d_Reader_process_324 : decode prog_8_method_13_code 324 = .ok (.aload 4, 2) := by decide +kernel
theorem d_Reader_process_326 : decode prog_8_method_13_code 326 = .ok (.iload_n 2, 1) := by decide +kernel
theorem d_Reader_process_327 : decode prog_8_method_13_code 327 = .ok (.iconst 1, 1) := by decide +kernel
theorem d_Reader_process_328 : decode prog_8_method_13_code 328 = .ok (.iadd, 1) := by decide +kernel
theorem d_Reader_process_329 : decode prog_8_method_13_code 329 = .ok (.iload_n 3, 1) := by decide +kernel
theorem d_Reader_process_330 : decode prog_8_method_13_code 330 = .ok (.invokevirtual 109, 3) := by decide +kernel
theorem d_Reader_process_333 : decode prog_8_method_13_code 333 = .ok (.ifCond .eq 7, 3) := by decide +kernel
theorem d_Reader_process_336 : decode prog_8_method_13_code 336 = .ok (.iconst 1, 1) := by decide +kernel
theorem d_Reader_process_337 : decode prog_8_method_13_code 337 = .ok (.goto 4, 3) := by decide +kernel
theorem d_Reader_process_340 : decode prog_8_method_13_code 340 = .ok (.iconst 0, 1) := by decide +kernel
theorem d_Reader_process_341 : decode prog_8_method_13_code 341 = .ok (.ireturn, 1) := by decide +kernel
theorem d_Reader_process_342 : decode prog_8_method_13_code 342 = .ok (.iconst 1, 1) := by decide +kernel
theorem d_Reader_process_343 : decode prog_8_method_13_code 343 = .ok (.ireturn, 1) := by decide +kernel
set_option maxHeartbeats 4000000 in
set_option maxRecDepth 100000 in
theorem c_Reader_start (l : Launch) (dC : Nat → ClassId) (dI : Nat → Nat → Nat) (ar : Nat → ClassId) (N0 : Nat) (z : Nat → Nat) (h0 tx co : Nat) (sz : Nat) : Met l ({ cls := "ChannelMachine$Reader", name := "start", desc := "()V" } : Jvm.MethodName) ((Jvm.Cond.code ({ cls := "ChannelMachine$Reader", name := "start", desc := "()V" } : Jvm.MethodName) prog_8_method_3_code (1 : Nat) (Option.none : Option Jvm.ClassFile.FieldType)) :: x_T) ({ frames := 0, cells := 0, slots := 0, locals := 0 }) (x_Pc (dC, dI) ar N0 z [(h0, .inr (3, [.ref tx, .ref co, .int 0, .int 0, .int 0, .int 0, .int 0, .int 0, .null]))] sz [.ref h0]) (va_Qv (fun (u : Unit) => True) (fun u t => va_P (dC, dI) x_cl [(h0, .inr (3, [.ref tx, .ref co, .int 0, .int 0, .int 0, .int 0, .int 0, .int 0, .null]))] t.heap ∧ va_D (va_A [(h0, .inr (3, [.ref tx, .ref co, .int 0, .int 0, .int 0, .int 0, .int 0, .int 0, .null]))] sz) [(h0, .inr (3, [.ref tx, .ref co, .int 0, .int 0, .int 0, .int 0, .int 0, .int 0, .null]))]) (va_A [(h0, .inr (3, [.ref tx, .ref co, .int 0, .int 0, .int 0, .int 0, .int 0, .int 0, .null]))] sz)) 0 0 (va_A [(h0, .inr (3, [.ref tx, .ref co, .int 0, .int 0, .int 0, .int 0, .int 0, .int 0, .null]))] sz) := by
  refine Met.ofW (cc := prog_8_method_3_code) (maxL := 1) (ret := none) (by decide) rfl ?_
  intro p e s m args below meth c s₁ B hml hv
  obtain ⟨rfl, hsz, hN0, hP, hU, hZ, hD0⟩ := hv
  have hK := hU.1
  have hx := B.exec
  have hb := B.bytes
  have hr := B.returns
  have hts : ∀ w ∈ x_T, w.before ([.ref h0] : List Value).toArray s = true := fun w h => atoms_spec (ws := (Jvm.Cond.code ({ cls := "ChannelMachine$Reader", name := "start", desc := "()V" } : Jvm.MethodName) prog_8_method_3_code (1 : Nat) (Option.none : Option Jvm.ClassFile.FieldType)) :: x_T) B.pre w (List.mem_cons_of_mem _ h)
  have hown : s.vm.findClass "ChannelMachine$Reader" = some m.cls := findClass_of_methodNamed B.named
  have hlocks := B.notSynchronized
  subst hsz
  have hD := hD0.self (sz := s.heap.size)
  have hAN := x_AN hD0 hN0
  generalize hAe : va_A [(h0, .inr (3, [.ref tx, .ref co, .int 0, .int 0, .int 0, .int 0, .int 0, .int 0, .null]))] s.heap.size = A at hD hAN ⊢
  have hA : ∀ q : Nat, s.heap.size ≤ q → A q := fun q h => by rw [← hAe]; exact Or.inr h
  have hS : va_S A s.heap s.heap [] := va_S.rf
  have hP : va_P (dC, dI) x_cl [(h0, .inr (3, [.ref tx, .ref co, .int 0, .int 0, .int 0, .int 0, .int 0, .int 0, .null]))] s.heap := hP
  have hl := lv_entry ([.ref h0]) (n := 1) (Nat.le_of_ble_eq_true rfl)
  rw [lg_entry_eq]
  generalize (lg_sl ([.ref h0]) ++ List.replicate (1 - (lg_sl ([.ref h0])).length) Slot.unset).toArray = ls at hl ⊢
  have hl : lv_has ls 1 [(0, .ref h0)] := hl
  have hH0 : s.heap.size ≤ s.heap.size := Nat.le_refl _
  refine lv_aload_n hx hb d_Reader_start_0 rfl (lv_at hl 0 rfl) ?_
  refine lv_aload_n hx hb d_Reader_start_1 rfl (lv_at hl 0 rfl) ?_
  refine va_get (D := (dC, dI)) (ci := 3) (v := .int 0) (C := "ChannelMachine$Reader") (T := F_Reader) (N := 9) hx hb hts i_Reader hown hK hP 0 rfl rfl 2 (by decide) (hts _ k_45) (fun _ h9 => h9) rfl d_Reader_start_2 ?_
  refine va_put (D := (dC, dI)) (ci := 3) (v := .int 0) (ty := .int) (C := "ChannelMachine$Reader") (T := F_Reader) (N := 9) hx hb hts i_Reader t_Reader t_Reader_ok n_Reader hown hK hP hD hS 0 rfl rfl 4 (by decide) (hts _ k_48) (fun _ h9 => h9) rfl (by decide +kernel) rfl rfl (Nat.le_of_ble_eq_true rfl) d_Reader_start_5 (fun H locs hP hD hS => ?_)
  have hP : va_P (dC, dI) x_cl [(h0, .inr (3, [.ref tx, .ref co, .int 0, .int 0, .int 0, .int 0, .int 0, .int 0, .null]))] H := hP
  have hD : va_D A [(h0, .inr (3, [.ref tx, .ref co, .int 0, .int 0, .int 0, .int 0, .int 0, .int 0, .null]))] := hD
  refine lv_aload_n hx hb d_Reader_start_8 rfl (lv_at hl 0 rfl) ?_
  refine lv_iconst (v := 0) hx hb d_Reader_start_9 (by decide) ?_
  refine va_put (D := (dC, dI)) (ci := 3) (v := .int 0) (ty := .int) (C := "ChannelMachine$Reader") (T := F_Reader) (N := 9) hx hb hts i_Reader t_Reader t_Reader_ok n_Reader hown hK hP hD hS 0 rfl rfl 5 (by decide) (hts _ k_49) (fun _ h9 => h9) rfl (by decide +kernel) rfl rfl (Nat.le_of_ble_eq_true rfl) d_Reader_start_10 (fun H locs hP hD hS => ?_)
  have hP : va_P (dC, dI) x_cl [(h0, .inr (3, [.ref tx, .ref co, .int 0, .int 0, .int 0, .int 0, .int 0, .int 0, .null]))] H := hP
  have hD : va_D A [(h0, .inr (3, [.ref tx, .ref co, .int 0, .int 0, .int 0, .int 0, .int 0, .int 0, .null]))] := hD
  refine lv_aload_n hx hb d_Reader_start_13 rfl (lv_at hl 0 rfl) ?_
  refine lv_iconst (v := 0) hx hb d_Reader_start_14 (by decide) ?_
  refine va_put (D := (dC, dI)) (ci := 3) (v := .int 0) (ty := .int) (C := "ChannelMachine$Reader") (T := F_Reader) (N := 9) hx hb hts i_Reader t_Reader t_Reader_ok n_Reader hown hK hP hD hS 0 rfl rfl 6 (by decide) (hts _ k_50) (fun _ h9 => h9) rfl (by decide +kernel) rfl rfl (Nat.le_of_ble_eq_true rfl) d_Reader_start_15 (fun H locs hP hD hS => ?_)
  have hP : va_P (dC, dI) x_cl [(h0, .inr (3, [.ref tx, .ref co, .int 0, .int 0, .int 0, .int 0, .int 0, .int 0, .null]))] H := hP
  have hD : va_D A [(h0, .inr (3, [.ref tx, .ref co, .int 0, .int 0, .int 0, .int 0, .int 0, .int 0, .null]))] := hD
  refine lv_aload_n hx hb d_Reader_start_18 rfl (lv_at hl 0 rfl) ?_
  refine lv_iconst (v := 0) hx hb d_Reader_start_19 (by decide) ?_
  refine va_put (D := (dC, dI)) (ci := 3) (v := .int 0) (ty := .int) (C := "ChannelMachine$Reader") (T := F_Reader) (N := 9) hx hb hts i_Reader t_Reader t_Reader_ok n_Reader hown hK hP hD hS 0 rfl rfl 7 (by decide) (hts _ k_52) (fun _ h9 => h9) rfl (by decide +kernel) rfl rfl (Nat.le_of_ble_eq_true rfl) d_Reader_start_20 (fun H locs hP hD hS => ?_)
  have hP : va_P (dC, dI) x_cl [(h0, .inr (3, [.ref tx, .ref co, .int 0, .int 0, .int 0, .int 0, .int 0, .int 0, .null]))] H := hP
  have hD : va_D A [(h0, .inr (3, [.ref tx, .ref co, .int 0, .int 0, .int 0, .int 0, .int 0, .int 0, .null]))] := hD
  refine W.widen (k := 0) (n := 0) (Nat.le_of_ble_eq_true rfl) (Nat.le_of_ble_eq_true rfl) ?_
  exact W.vret hx hb hr (fun t ht hW => ⟨⟨(), rfl, trivial, ⟨by rw [ht]; exact hP, hD⟩⟩, hS.F ht⟩) hS.2.2 d_Reader_start_23
set_option maxHeartbeats 4000000 in
set_option maxRecDepth 100000 in
theorem c_Reader_look (l : Launch) (dC : Nat → ClassId) (dI : Nat → Nat → Nat) (ar : Nat → ClassId) (N0 : Nat) (z : Nat → Nat) (h0 tx co : Nat) (sz : Nat) : Met l ({ cls := "ChannelMachine$Reader", name := "look", desc := "()C" } : Jvm.MethodName) ((Jvm.Cond.code ({ cls := "ChannelMachine$Reader", name := "look", desc := "()C" } : Jvm.MethodName) prog_8_method_5_code (1 : Nat) (Option.some Jvm.ClassFile.FieldType.char)) :: x_T) ({ frames := 0, cells := 0, slots := 0, locals := 0 }) (x_Pc (dC, dI) ar N0 z [(h0, .inr (3, [.ref tx, .ref co, .int 0, .int 0, .int 0, .int 0, .int 0, .int 0, .null]))] sz [.ref h0]) (va_Qi (fun (r : Int32) (u : Unit) => r = 0) (fun u t => va_P (dC, dI) x_cl [(h0, .inr (3, [.ref tx, .ref co, .int 0, .int 0, .int 0, .int 0, .int 0, .int 0, .null]))] t.heap ∧ va_D (va_A [(h0, .inr (3, [.ref tx, .ref co, .int 0, .int 0, .int 0, .int 0, .int 0, .int 0, .null]))] sz) [(h0, .inr (3, [.ref tx, .ref co, .int 0, .int 0, .int 0, .int 0, .int 0, .int 0, .null]))]) (va_A [(h0, .inr (3, [.ref tx, .ref co, .int 0, .int 0, .int 0, .int 0, .int 0, .int 0, .null]))] sz)) 0 0 (va_A [(h0, .inr (3, [.ref tx, .ref co, .int 0, .int 0, .int 0, .int 0, .int 0, .int 0, .null]))] sz) := by
  refine Met.ofW (cc := prog_8_method_5_code) (maxL := 1) (ret := (some .char)) (by decide) rfl ?_
  intro p e s m args below meth c s₁ B hml hv
  obtain ⟨rfl, hsz, hN0, hP, hU, hZ, hD0⟩ := hv
  have hK := hU.1
  have hx := B.exec
  have hb := B.bytes
  have hr := B.returns
  have hts : ∀ w ∈ x_T, w.before ([.ref h0] : List Value).toArray s = true := fun w h => atoms_spec (ws := (Jvm.Cond.code ({ cls := "ChannelMachine$Reader", name := "look", desc := "()C" } : Jvm.MethodName) prog_8_method_5_code (1 : Nat) (Option.some Jvm.ClassFile.FieldType.char)) :: x_T) B.pre w (List.mem_cons_of_mem _ h)
  have hown : s.vm.findClass "ChannelMachine$Reader" = some m.cls := findClass_of_methodNamed B.named
  have hlocks := B.notSynchronized
  subst hsz
  have hD := hD0.self (sz := s.heap.size)
  have hAN := x_AN hD0 hN0
  generalize hAe : va_A [(h0, .inr (3, [.ref tx, .ref co, .int 0, .int 0, .int 0, .int 0, .int 0, .int 0, .null]))] s.heap.size = A at hD hAN ⊢
  have hA : ∀ q : Nat, s.heap.size ≤ q → A q := fun q h => by rw [← hAe]; exact Or.inr h
  have hS : va_S A s.heap s.heap [] := va_S.rf
  have hP : va_P (dC, dI) x_cl [(h0, .inr (3, [.ref tx, .ref co, .int 0, .int 0, .int 0, .int 0, .int 0, .int 0, .null]))] s.heap := hP
  have hl := lv_entry ([.ref h0]) (n := 1) (Nat.le_of_ble_eq_true rfl)
  rw [lg_entry_eq]
  generalize (lg_sl ([.ref h0]) ++ List.replicate (1 - (lg_sl ([.ref h0])).length) Slot.unset).toArray = ls at hl ⊢
  have hl : lv_has ls 1 [(0, .ref h0)] := hl
  have hH0 : s.heap.size ≤ s.heap.size := Nat.le_refl _
  refine lv_aload_n hx hb d_Reader_look_0 rfl (lv_at hl 0 rfl) ?_
  refine va_get (D := (dC, dI)) (ci := 3) (v := .int 0) (C := "ChannelMachine$Reader") (T := F_Reader) (N := 9) hx hb hts i_Reader hown hK hP 0 rfl rfl 5 (by decide) (hts _ k_49) (fun _ h9 => h9) rfl d_Reader_look_1 ?_
  refine lv_aload_n hx hb d_Reader_look_4 rfl (lv_at hl 0 rfl) ?_
  refine va_get (D := (dC, dI)) (ci := 3) (v := .int 0) (C := "ChannelMachine$Reader") (T := F_Reader) (N := 9) hx hb hts i_Reader hown hK hP 0 rfl rfl 4 (by decide) (hts _ k_48) (fun _ h9 => h9) rfl d_Reader_look_5 ?_
  refine lv_icmp_ge (tgt := 32) hx hb d_Reader_look_8 (by decide) (fun _ => ?_) (fun c1 => absurd (by decide) c1)
  refine lv_iconst (v := 0) hx hb d_Reader_look_32 (by decide) ?_
  refine W.widen (k := 0) (n := 0) (Nat.le_of_ble_eq_true rfl) (Nat.le_of_ble_eq_true rfl) ?_
  exact W.zret (v := 0) hx hb hr (rfl) (fun t ht hW => ⟨⟨0, (), rfl, rfl, ⟨by rw [ht]; exact hP, hD⟩⟩, hS.F ht⟩) hS.2.2 d_Reader_look_33
set_option maxHeartbeats 4000000 in
set_option maxRecDepth 100000 in
theorem c_Reader_lookBehindNext (l : Launch) (dC : Nat → ClassId) (dI : Nat → Nat → Nat) (ar : Nat → ClassId) (N0 : Nat) (z : Nat → Nat) (h0 tx co : Nat) (sz : Nat) : Met l ({ cls := "ChannelMachine$Reader", name := "lookBehindNext", desc := "()C" } : Jvm.MethodName) ((Jvm.Cond.code ({ cls := "ChannelMachine$Reader", name := "lookBehindNext", desc := "()C" } : Jvm.MethodName) prog_8_method_6_code (1 : Nat) (Option.some Jvm.ClassFile.FieldType.char)) :: x_T) ({ frames := 0, cells := 0, slots := 0, locals := 0 }) (x_Pc (dC, dI) ar N0 z [(h0, .inr (3, [.ref tx, .ref co, .int 0, .int 0, .int 0, .int 0, .int 0, .int 0, .null]))] sz [.ref h0]) (va_Qi (fun (r : Int32) (u : Unit) => r = 0) (fun u t => va_P (dC, dI) x_cl [(h0, .inr (3, [.ref tx, .ref co, .int 0, .int 0, .int 0, .int 0, .int 0, .int 0, .null]))] t.heap ∧ va_D (va_A [(h0, .inr (3, [.ref tx, .ref co, .int 0, .int 0, .int 0, .int 0, .int 0, .int 0, .null]))] sz) [(h0, .inr (3, [.ref tx, .ref co, .int 0, .int 0, .int 0, .int 0, .int 0, .int 0, .null]))]) (va_A [(h0, .inr (3, [.ref tx, .ref co, .int 0, .int 0, .int 0, .int 0, .int 0, .int 0, .null]))] sz)) 0 0 (va_A [(h0, .inr (3, [.ref tx, .ref co, .int 0, .int 0, .int 0, .int 0, .int 0, .int 0, .null]))] sz) := by
  refine Met.ofW (cc := prog_8_method_6_code) (maxL := 1) (ret := (some .char)) (by decide) rfl ?_
  intro p e s m args below meth c s₁ B hml hv
  obtain ⟨rfl, hsz, hN0, hP, hU, hZ, hD0⟩ := hv
  have hK := hU.1
  have hx := B.exec
  have hb := B.bytes
  have hr := B.returns
  have hts : ∀ w ∈ x_T, w.before ([.ref h0] : List Value).toArray s = true := fun w h => atoms_spec (ws := (Jvm.Cond.code ({ cls := "ChannelMachine$Reader", name := "lookBehindNext", desc := "()C" } : Jvm.MethodName) prog_8_method_6_code (1 : Nat) (Option.some Jvm.ClassFile.FieldType.char)) :: x_T) B.pre w (List.mem_cons_of_mem _ h)
  have hown : s.vm.findClass "ChannelMachine$Reader" = some m.cls := findClass_of_methodNamed B.named
  have hlocks := B.notSynchronized
  subst hsz
  have hD := hD0.self (sz := s.heap.size)
  have hAN := x_AN hD0 hN0
  generalize hAe : va_A [(h0, .inr (3, [.ref tx, .ref co, .int 0, .int 0, .int 0, .int 0, .int 0, .int 0, .null]))] s.heap.size = A at hD hAN ⊢
  have hA : ∀ q : Nat, s.heap.size ≤ q → A q := fun q h => by rw [← hAe]; exact Or.inr h
  have hS : va_S A s.heap s.heap [] := va_S.rf
  have hP : va_P (dC, dI) x_cl [(h0, .inr (3, [.ref tx, .ref co, .int 0, .int 0, .int 0, .int 0, .int 0, .int 0, .null]))] s.heap := hP
  have hl := lv_entry ([.ref h0]) (n := 1) (Nat.le_of_ble_eq_true rfl)
  rw [lg_entry_eq]
  generalize (lg_sl ([.ref h0]) ++ List.replicate (1 - (lg_sl ([.ref h0])).length) Slot.unset).toArray = ls at hl ⊢
  have hl : lv_has ls 1 [(0, .ref h0)] := hl
  have hH0 : s.heap.size ≤ s.heap.size := Nat.le_refl _
  refine lv_aload_n hx hb d_Reader_lookBehindNext_0 rfl (lv_at hl 0 rfl) ?_
  refine va_get (D := (dC, dI)) (ci := 3) (v := .int 0) (C := "ChannelMachine$Reader") (T := F_Reader) (N := 9) hx hb hts i_Reader hown hK hP 0 rfl rfl 5 (by decide) (hts _ k_49) (fun _ h9 => h9) rfl d_Reader_lookBehindNext_1 ?_
  refine lv_iconst (v := 1) hx hb d_Reader_lookBehindNext_4 (by decide) ?_
  refine lv_iadd hx hb d_Reader_lookBehindNext_5 ?_
  refine W.eq (g2 := F0 m 6 ls [.int 1]) rfl ?_
  refine lv_aload_n hx hb d_Reader_lookBehindNext_6 rfl (lv_at hl 0 rfl) ?_
  refine va_get (D := (dC, dI)) (ci := 3) (v := .int 0) (C := "ChannelMachine$Reader") (T := F_Reader) (N := 9) hx hb hts i_Reader hown hK hP 0 rfl rfl 4 (by decide) (hts _ k_48) (fun _ h9 => h9) rfl d_Reader_lookBehindNext_7 ?_
  refine lv_icmp_ge (tgt := 38) hx hb d_Reader_lookBehindNext_10 (by decide) (fun _ => ?_) (fun c1 => absurd (by decide) c1)
  refine lv_iconst (v := 0) hx hb d_Reader_lookBehindNext_38 (by decide) ?_
  refine W.widen (k := 0) (n := 0) (Nat.le_of_ble_eq_true rfl) (Nat.le_of_ble_eq_true rfl) ?_
  exact W.zret (v := 0) hx hb hr (rfl) (fun t ht hW => ⟨⟨0, (), rfl, rfl, ⟨by rw [ht]; exact hP, hD⟩⟩, hS.F ht⟩) hS.2.2 d_Reader_lookBehindNext_39
set_option maxHeartbeats 4000000 in
set_option maxRecDepth 100000 in
theorem c_Reader_refuse (l : Launch) (dC : Nat → ClassId) (dI : Nat → Nat → Nat) (ar : Nat → ClassId) (N0 : Nat) (z : Nat → Nat) (h0 tx co : Nat) (sz : Nat) : Met l ({ cls := "ChannelMachine$Reader", name := "refuse", desc := "()Z" } : Jvm.MethodName) ((Jvm.Cond.code ({ cls := "ChannelMachine$Reader", name := "refuse", desc := "()Z" } : Jvm.MethodName) prog_8_method_7_code (1 : Nat) (Option.some Jvm.ClassFile.FieldType.boolean)) :: x_T) ({ frames := 1, cells := 0, slots := 0, locals := 17 }) (x_Pc (dC, dI) ar N0 z [(h0, .inr (3, [.ref tx, .ref co, .int 0, .int 0, .int 0, .int 0, .int 0, .int 0, .null]))] sz [.ref h0]) (va_Qi (fun (r : Int32) (u : Unit) => r = 0) (fun u t => va_P (dC, dI) x_cl [(h0, .inr (3, [.ref tx, .ref co, .int 0, .int 0, .int 0, .int 0, .int 0, .int 0, .null]))] t.heap ∧ va_D (va_A [(h0, .inr (3, [.ref tx, .ref co, .int 0, .int 0, .int 0, .int 0, .int 0, .int 0, .null]))] sz) [(h0, .inr (3, [.ref tx, .ref co, .int 0, .int 0, .int 0, .int 0, .int 0, .int 0, .null]))]) (va_A [(h0, .inr (3, [.ref tx, .ref co, .int 0, .int 0, .int 0, .int 0, .int 0, .int 0, .null]))] sz)) 0 0 (va_A [(h0, .inr (3, [.ref tx, .ref co, .int 0, .int 0, .int 0, .int 0, .int 0, .int 0, .null]))] sz) := by
  refine Met.ofW (cc := prog_8_method_7_code) (maxL := 1) (ret := (some .boolean)) (by decide) rfl ?_
  intro p e s m args below meth c s₁ B hml hv
  obtain ⟨rfl, hsz, hN0, hP, hU, hZ, hD0⟩ := hv
  have hK := hU.1
  have hx := B.exec
  have hb := B.bytes
  have hr := B.returns
  have hts : ∀ w ∈ x_T, w.before ([.ref h0] : List Value).toArray s = true := fun w h => atoms_spec (ws := (Jvm.Cond.code ({ cls := "ChannelMachine$Reader", name := "refuse", desc := "()Z" } : Jvm.MethodName) prog_8_method_7_code (1 : Nat) (Option.some Jvm.ClassFile.FieldType.boolean)) :: x_T) B.pre w (List.mem_cons_of_mem _ h)
  have hown : s.vm.findClass "ChannelMachine$Reader" = some m.cls := findClass_of_methodNamed B.named
  have hlocks := B.notSynchronized
  subst hsz
  have hD := hD0.self (sz := s.heap.size)
  have hAN := x_AN hD0 hN0
  generalize hAe : va_A [(h0, .inr (3, [.ref tx, .ref co, .int 0, .int 0, .int 0, .int 0, .int 0, .int 0, .null]))] s.heap.size = A at hD hAN ⊢
  have hA : ∀ q : Nat, s.heap.size ≤ q → A q := fun q h => by rw [← hAe]; exact Or.inr h
  have hS : va_S A s.heap s.heap [] := va_S.rf
  have hP : va_P (dC, dI) x_cl [(h0, .inr (3, [.ref tx, .ref co, .int 0, .int 0, .int 0, .int 0, .int 0, .int 0, .null]))] s.heap := hP
  have hl := lv_entry ([.ref h0]) (n := 1) (Nat.le_of_ble_eq_true rfl)
  rw [lg_entry_eq]
  generalize (lg_sl ([.ref h0]) ++ List.replicate (1 - (lg_sl ([.ref h0])).length) Slot.unset).toArray = ls at hl ⊢
  have hl : lv_has ls 1 [(0, .ref h0)] := hl
  have hH0 : s.heap.size ≤ s.heap.size := Nat.le_refl _
  refine lv_aload_n hx hb d_Reader_refuse_0 rfl (lv_at hl 0 rfl) ?_
  refine lv_aload_n hx hb d_Reader_refuse_1 rfl (lv_at hl 0 rfl) ?_
  refine va_get (D := (dC, dI)) (ci := 3) (v := .int 0) (C := "ChannelMachine$Reader") (T := F_Reader) (N := 9) hx hb hts i_Reader hown hK hP 0 rfl rfl 6 (by decide) (hts _ k_50) (fun _ h9 => h9) rfl d_Reader_refuse_2 ?_
  refine lv_aload_n hx hb d_Reader_refuse_5 rfl (lv_at hl 0 rfl) ?_
  refine va_get (D := (dC, dI)) (ci := 3) (v := .int 0) (C := "ChannelMachine$Reader") (T := F_Reader) (N := 9) hx hb hts i_Reader hown hK hP 0 rfl rfl 5 (by decide) (hts _ k_49) (fun _ h9 => h9) rfl d_Reader_refuse_6 ?_
  refine va_mmax hx hb (by rw [hml]; exact hl.1.symm) hown (hts _ k_481) (hts _ k_482) (hts _ k_19) (hts _ k_483) (Nat.le_of_ble_eq_true rfl) (Nat.le_of_ble_eq_true rfl) (Nat.le_of_ble_eq_true rfl) (Nat.le_of_ble_eq_true rfl) d_Reader_refuse_9 ?_
  refine W.eq (g2 := F0 m 12 ls [.int 0, .ref h0]) rfl ?_
  refine va_put (D := (dC, dI)) (ci := 3) (v := .int 0) (ty := .int) (C := "ChannelMachine$Reader") (T := F_Reader) (N := 9) hx hb hts i_Reader t_Reader t_Reader_ok n_Reader hown hK hP hD hS 0 rfl rfl 6 (by decide) (hts _ k_50) (fun _ h9 => h9) rfl (by decide +kernel) rfl rfl (Nat.le_of_ble_eq_true rfl) d_Reader_refuse_12 (fun H locs hP hD hS => ?_)
  have hP : va_P (dC, dI) x_cl [(h0, .inr (3, [.ref tx, .ref co, .int 0, .int 0, .int 0, .int 0, .int 0, .int 0, .null]))] H := hP
  have hD : va_D A [(h0, .inr (3, [.ref tx, .ref co, .int 0, .int 0, .int 0, .int 0, .int 0, .int 0, .null]))] := hD
  refine lv_iconst (v := 0) hx hb d_Reader_refuse_15 (by decide) ?_
  refine W.widen (k := 0) (n := 0) (Nat.le_of_ble_eq_true rfl) (Nat.le_of_ble_eq_true rfl) ?_
  exact W.zret (v := 0) hx hb hr (rfl) (fun t ht hW => ⟨⟨0, (), rfl, rfl, ⟨by rw [ht]; exact hP, hD⟩⟩, hS.F ht⟩) hS.2.2 d_Reader_refuse_16
set_option maxHeartbeats 4000000 in
set_option maxRecDepth 100000 in
theorem c_Reader_isVariable (l : Launch) (dC : Nat → ClassId) (dI : Nat → Nat → Nat) (ar : Nat → ClassId) (N0 : Nat) (z : Nat → Nat)  (sz : Nat) : Met l ({ cls := "ChannelMachine$Reader", name := "isVariable", desc := "(C)Z" } : Jvm.MethodName) ((Jvm.Cond.code ({ cls := "ChannelMachine$Reader", name := "isVariable", desc := "(C)Z" } : Jvm.MethodName) prog_8_method_11_code (1 : Nat) (Option.some Jvm.ClassFile.FieldType.boolean)) :: x_T) ({ frames := 0, cells := 0, slots := 0, locals := 0 }) (x_Pc (dC, dI) ar N0 z [] sz [.int 0]) (va_Qi (fun (r : Int32) (u : Unit) => r = 0) (fun u t => va_P (dC, dI) x_cl [] t.heap ∧ va_D (va_A [] sz) []) (va_A [] sz)) 0 0 (va_A [] sz) := by
  refine Met.ofW (cc := prog_8_method_11_code) (maxL := 1) (ret := (some .boolean)) (by decide) rfl ?_
  intro p e s m args below meth c s₁ B hml hv
  obtain ⟨rfl, hsz, hN0, hP, hU, hZ, hD0⟩ := hv
  have hK := hU.1
  have hx := B.exec
  have hb := B.bytes
  have hr := B.returns
  have hts : ∀ w ∈ x_T, w.before ([.int 0] : List Value).toArray s = true := fun w h => atoms_spec (ws := (Jvm.Cond.code ({ cls := "ChannelMachine$Reader", name := "isVariable", desc := "(C)Z" } : Jvm.MethodName) prog_8_method_11_code (1 : Nat) (Option.some Jvm.ClassFile.FieldType.boolean)) :: x_T) B.pre w (List.mem_cons_of_mem _ h)
  have hown : s.vm.findClass "ChannelMachine$Reader" = some m.cls := findClass_of_methodNamed B.named
  have hlocks := B.notSynchronized
  subst hsz
  have hD := hD0.self (sz := s.heap.size)
  have hAN := x_AN hD0 hN0
  generalize hAe : va_A [] s.heap.size = A at hD hAN ⊢
  have hA : ∀ q : Nat, s.heap.size ≤ q → A q := fun q h => by rw [← hAe]; exact Or.inr h
  have hS : va_S A s.heap s.heap [] := va_S.rf
  have hP : va_P (dC, dI) x_cl [] s.heap := hP
  have hl := lv_entry ([.int 0]) (n := 1) (Nat.le_of_ble_eq_true rfl)
  rw [lg_entry_eq]
  generalize (lg_sl ([.int 0]) ++ List.replicate (1 - (lg_sl ([.int 0])).length) Slot.unset).toArray = ls at hl ⊢
  have hl : lv_has ls 1 [(0, .int 0)] := hl
  have hH0 : s.heap.size ≤ s.heap.size := Nat.le_refl _
  refine lv_iload_n hx hb d_Reader_isVariable_0 rfl (lv_at hl 0 rfl) ?_
  refine lv_bipush (v := 97) hx hb d_Reader_isVariable_1 (by decide) ?_
  refine lv_icmp_lt (tgt := 16) hx hb d_Reader_isVariable_3 (by decide) (fun _ => ?_) (fun c1 => absurd (by decide) c1)
  refine lv_iconst (v := 0) hx hb d_Reader_isVariable_16 (by decide) ?_
  refine W.widen (k := 0) (n := 0) (Nat.le_of_ble_eq_true rfl) (Nat.le_of_ble_eq_true rfl) ?_
  exact W.zret (v := 0) hx hb hr (rfl) (fun t ht hW => ⟨⟨0, (), rfl, rfl, ⟨by rw [ht]; exact hP, hD⟩⟩, hS.F ht⟩) hS.2.2 d_Reader_isVariable_17
set_option maxHeartbeats 4000000 in
set_option maxRecDepth 100000 in
theorem c_Reader_channelOf (l : Launch) (dC : Nat → ClassId) (dI : Nat → Nat → Nat) (ar : Nat → ClassId) (N0 : Nat) (z : Nat → Nat)  (sz : Nat) : Met l ({ cls := "ChannelMachine$Reader", name := "channelOf", desc := "(C)I" } : Jvm.MethodName) ((Jvm.Cond.code ({ cls := "ChannelMachine$Reader", name := "channelOf", desc := "(C)I" } : Jvm.MethodName) prog_8_method_12_code (1 : Nat) (Option.some Jvm.ClassFile.FieldType.int)) :: x_T) ({ frames := 0, cells := 0, slots := 0, locals := 0 }) (x_Pc (dC, dI) ar N0 z [] sz [.int 0]) (va_Qi (fun (r : Int32) (u : Unit) => r = -1) (fun u t => va_P (dC, dI) x_cl [] t.heap ∧ va_D (va_A [] sz) []) (va_A [] sz)) 0 0 (va_A [] sz) := by
  refine Met.ofW (cc := prog_8_method_12_code) (maxL := 1) (ret := (some .int)) (by decide) rfl ?_
  intro p e s m args below meth c s₁ B hml hv
  obtain ⟨rfl, hsz, hN0, hP, hU, hZ, hD0⟩ := hv
  have hK := hU.1
  have hx := B.exec
  have hb := B.bytes
  have hr := B.returns
  have hts : ∀ w ∈ x_T, w.before ([.int 0] : List Value).toArray s = true := fun w h => atoms_spec (ws := (Jvm.Cond.code ({ cls := "ChannelMachine$Reader", name := "channelOf", desc := "(C)I" } : Jvm.MethodName) prog_8_method_12_code (1 : Nat) (Option.some Jvm.ClassFile.FieldType.int)) :: x_T) B.pre w (List.mem_cons_of_mem _ h)
  have hown : s.vm.findClass "ChannelMachine$Reader" = some m.cls := findClass_of_methodNamed B.named
  have hlocks := B.notSynchronized
  subst hsz
  have hD := hD0.self (sz := s.heap.size)
  have hAN := x_AN hD0 hN0
  generalize hAe : va_A [] s.heap.size = A at hD hAN ⊢
  have hA : ∀ q : Nat, s.heap.size ≤ q → A q := fun q h => by rw [← hAe]; exact Or.inr h
  have hS : va_S A s.heap s.heap [] := va_S.rf
  have hP : va_P (dC, dI) x_cl [] s.heap := hP
  have hl := lv_entry ([.int 0]) (n := 1) (Nat.le_of_ble_eq_true rfl)
  rw [lg_entry_eq]
  generalize (lg_sl ([.int 0]) ++ List.replicate (1 - (lg_sl ([.int 0])).length) Slot.unset).toArray = ls at hl ⊢
  have hl : lv_has ls 1 [(0, .int 0)] := hl
  have hH0 : s.heap.size ≤ s.heap.size := Nat.le_refl _
  refine lv_iload_n hx hb d_Reader_channelOf_0 rfl (lv_at hl 0 rfl) ?_
  refine lv_bipush (v := 73) hx hb d_Reader_channelOf_1 (by decide) ?_
  refine lv_icmp_ne (tgt := 8) hx hb d_Reader_channelOf_3 (by decide) (fun _ => ?_) (fun c1 => absurd c1 (by decide))
  refine lv_iload_n hx hb d_Reader_channelOf_8 rfl (lv_at hl 0 rfl) ?_
  refine lv_bipush (v := 79) hx hb d_Reader_channelOf_9 (by decide) ?_
  refine lv_icmp_ne (tgt := 16) hx hb d_Reader_channelOf_11 (by decide) (fun _ => ?_) (fun c2 => absurd c2 (by decide))
  refine lv_iload_n hx hb d_Reader_channelOf_16 rfl (lv_at hl 0 rfl) ?_
  refine lv_bipush (v := 65) hx hb d_Reader_channelOf_17 (by decide) ?_
  refine lv_icmp_lt (tgt := 35) hx hb d_Reader_channelOf_19 (by decide) (fun _ => ?_) (fun c3 => absurd (by decide) c3)
  refine lv_iconst (v := (-1)) hx hb d_Reader_channelOf_35 (by decide) ?_
  refine W.widen (k := 0) (n := 0) (Nat.le_of_ble_eq_true rfl) (Nat.le_of_ble_eq_true rfl) ?_
  exact W.iret (v := (-1)) hx hb hr (fun t ht hW => ⟨⟨(-1), (), rfl, rfl, ⟨by rw [ht]; exact hP, hD⟩⟩, hS.F ht⟩) hS.2.2 d_Reader_channelOf_36
set_option maxHeartbeats 4000000 in
set_option maxRecDepth 100000 in
theorem c_Reader_kindOf (l : Launch) (dC : Nat → ClassId) (dI : Nat → Nat → Nat) (ar : Nat → ClassId) (N0 : Nat) (z : Nat → Nat)  (sz : Nat) : Met l ({ cls := "ChannelMachine$Reader", name := "kindOf", desc := "(CC)LChannelMachine$Kind;" } : Jvm.MethodName) ((Jvm.Cond.code ({ cls := "ChannelMachine$Reader", name := "kindOf", desc := "(CC)LChannelMachine$Kind;" } : Jvm.MethodName) prog_8_method_15_code (2 : Nat) (Option.some (Jvm.ClassFile.FieldType.object "ChannelMachine$Kind"))) :: x_T) ({ frames := 1, cells := 0, slots := 0, locals := 20 }) (x_Pc (dC, dI) ar N0 z [] sz [.int 0, .int 0]) (va_Qq (fun (r : Option Nat) (u : Unit) => r = none) (fun u t => va_P (dC, dI) x_cl [] t.heap ∧ va_D (va_A [] sz) []) (va_A [] sz)) 0 0 (va_A [] sz) := by
  refine Met.ofW (cc := prog_8_method_15_code) (maxL := 2) (ret := (some (.object "ChannelMachine$Kind"))) (by decide) rfl ?_
  intro p e s m args below meth c s₁ B hml hv
  obtain ⟨rfl, hsz, hN0, hP, hU, hZ, hD0⟩ := hv
  have hK := hU.1
  have hx := B.exec
  have hb := B.bytes
  have hr := B.returns
  have hts : ∀ w ∈ x_T, w.before ([.int 0, .int 0] : List Value).toArray s = true := fun w h => atoms_spec (ws := (Jvm.Cond.code ({ cls := "ChannelMachine$Reader", name := "kindOf", desc := "(CC)LChannelMachine$Kind;" } : Jvm.MethodName) prog_8_method_15_code (2 : Nat) (Option.some (Jvm.ClassFile.FieldType.object "ChannelMachine$Kind"))) :: x_T) B.pre w (List.mem_cons_of_mem _ h)
  have hown : s.vm.findClass "ChannelMachine$Reader" = some m.cls := findClass_of_methodNamed B.named
  have hlocks := B.notSynchronized
  subst hsz
  have hD := hD0.self (sz := s.heap.size)
  have hAN := x_AN hD0 hN0
  generalize hAe : va_A [] s.heap.size = A at hD hAN ⊢
  have hA : ∀ q : Nat, s.heap.size ≤ q → A q := fun q h => by rw [← hAe]; exact Or.inr h
  have hS : va_S A s.heap s.heap [] := va_S.rf
  have hP : va_P (dC, dI) x_cl [] s.heap := hP
  have hl := lv_entry ([.int 0, .int 0]) (n := 2) (Nat.le_of_ble_eq_true rfl)
  rw [lg_entry_eq]
  generalize (lg_sl ([.int 0, .int 0]) ++ List.replicate (2 - (lg_sl ([.int 0, .int 0])).length) Slot.unset).toArray = ls at hl ⊢
  have hl : lv_has ls 2 [(0, .int 0), (1, .int 0)] := hl
  have hH0 : s.heap.size ≤ s.heap.size := Nat.le_refl _
  refine lv_iload_n hx hb d_Reader_kindOf_0 rfl (lv_at hl 0 rfl) ?_
  refine lv_lookup (tgt := 132) hx hb d_Reader_kindOf_1 (by decide) (off := 131) (by decide) (by decide) ?_
  refine lv_iload_n hx hb d_Reader_kindOf_132 rfl (lv_at hl 0 rfl) ?_
  have hPc := hP.sub (ws' := []) [] rfl
  have hDc := hD.sub (ws' := []) [] (by decide) rfl
  have hFc := va_free (wc := []) hD hS hA [] rfl
  refine va_calli (va_runS (As := [.int 0]) (rest := []) ⟨hx, hb, hml, hown, hts⟩ (c_Reader_isVariable l dC dI ar N0 z s.heap.size) (cwS 1 hts (x_goodS k_369 k_370 k_2 k_371) rfl rfl rfl (by decide +kernel) ⟨Nat.le_of_ble_eq_true rfl, Nat.le_of_ble_eq_true rfl⟩) ⟨x_blind, fun U hU9 hW => x_pre hU9 hW hPc hDc hU hZ hS hAN hN0⟩ rfl rfl hl.1 rfl (lv_room (Nat.le_of_ble_eq_true rfl)) d_Reader_kindOf_133 ⟨Nat.le_of_ble_eq_true rfl, Nat.le_of_ble_eq_true rfl⟩) hS (fun q _ h => hFc q h) hFc (fun r1 u2 t H1 locs ht hvm hw hB hz1 hk1 hS => ?_)
  obtain ⟨hP1, hD1⟩ := hB
  rw [ht] at hP1
  obtain ⟨hP, hD⟩ := va_join (wr := []) (w1 := []) hP hD [] [] rfl rfl (by decide) (by decide) hk1 hFc hP1 hD1
  generalize H1 = H at hP hS ⊢
  have hP : va_P (dC, dI) x_cl [] H := hP
  have hD : va_D A [] := hD
  refine W.widen (k := 0) (n := 0) (Nat.le_of_ble_eq_true rfl) (Nat.le_of_ble_eq_true rfl) ?_
  obtain rfl := hw
  refine lv_if_eq (tgt := 143) hx hb d_Reader_kindOf_136 (by decide) (fun _ => ?_) (fun c3 => absurd (by decide) c3)
  refine lv_iload_n hx hb d_Reader_kindOf_143 rfl (lv_at hl 0 rfl) ?_
  have hPc := hP.sub (ws' := []) [] rfl
  have hDc := hD.sub (ws' := []) [] (by decide) rfl
  have hFc := va_free (wc := []) hD hS hA [] rfl
  refine va_calli (va_runS (As := [.int 0]) (rest := []) ⟨hx, hb, hml, hown, hts⟩ (c_Reader_channelOf l dC dI ar N0 z H.size) (cwS 1 hts (x_goodS k_374 k_375 k_2 k_376) rfl rfl rfl (by decide +kernel) ⟨Nat.le_of_ble_eq_true rfl, Nat.le_of_ble_eq_true rfl⟩) ⟨x_blind, fun U hU9 hW => x_pre hU9 hW hPc hDc hU hZ hS hAN hN0⟩ rfl rfl hl.1 rfl (lv_room (Nat.le_of_ble_eq_true rfl)) d_Reader_kindOf_144 ⟨Nat.le_of_ble_eq_true rfl, Nat.le_of_ble_eq_true rfl⟩) hS (fun q _ h => hFc q h) hFc (fun r4 u5 t H1 locs ht hvm hw hB hz1 hk1 hS => ?_)
  obtain ⟨hP1, hD1⟩ := hB
  rw [ht] at hP1
  obtain ⟨hP, hD⟩ := va_join (wr := []) (w1 := []) hP hD [] [] rfl rfl (by decide) (by decide) hk1 hFc hP1 hD1
  generalize H1 = H at hP hS ⊢
  have hP : va_P (dC, dI) x_cl [] H := hP
  have hD : va_D A [] := hD
  refine W.widen (k := 0) (n := 0) (Nat.le_of_ble_eq_true rfl) (Nat.le_of_ble_eq_true rfl) ?_
  obtain rfl := hw
  refine lv_iconst (v := (-1)) hx hb d_Reader_kindOf_147 (by decide) ?_
  refine lv_icmp_ne (tgt := 153) hx hb d_Reader_kindOf_148 (by decide) (fun c6 => absurd rfl c6) (fun _ => ?_)
  refine lv_null hx hb d_Reader_kindOf_151 ?_
  refine W.widen (k := 0) (n := 0) (Nat.le_of_ble_eq_true rfl) (Nat.le_of_ble_eq_true rfl) ?_
  exact W.aret (v := .null) hx hb hr (Or.inl ⟨_, rfl⟩) (Or.inl rfl) (fun t ht hW => ⟨⟨none, (), rfl, rfl, ⟨by rw [ht]; exact hP, hD⟩⟩, hS.F ht⟩) hS.2.2 d_Reader_kindOf_152
set_option maxHeartbeats 4000000 in
set_option maxRecDepth 100000 in
theorem c_Reader_begin (l : Launch) (dC : Nat → ClassId) (dI : Nat → Nat → Nat) (ar : Nat → ClassId) (N0 : Nat) (z : Nat → Nat) (h0 tx co : Nat) (sz : Nat) : Met l ({ cls := "ChannelMachine$Reader", name := "begin", desc := "(LChannelMachine$Process;I)LChannelMachine$Process;" } : Jvm.MethodName) ((Jvm.Cond.code ({ cls := "ChannelMachine$Reader", name := "begin", desc := "(LChannelMachine$Process;I)LChannelMachine$Process;" } : Jvm.MethodName) prog_8_method_14_code (7 : Nat) (Option.some (Jvm.ClassFile.FieldType.object "ChannelMachine$Process"))) :: x_T) ({ frames := 2, cells := 0, slots := 0, locals := 41 }) (x_Pc (dC, dI) ar N0 z [(h0, .inr (3, [.ref tx, .ref co, .int 0, .int 0, .int 0, .int 0, .int 0, .int 0, .null]))] sz [.ref h0, .null, .int 1]) (va_Qq (fun (r : Option Nat) (u : Unit) => r = none) (fun u t => va_P (dC, dI) x_cl [(h0, .inr (3, [.ref tx, .ref co, .int 0, .int 0, .int 0, .int 0, .int 0, .int 0, .null]))] t.heap ∧ va_D (va_A [(h0, .inr (3, [.ref tx, .ref co, .int 0, .int 0, .int 0, .int 0, .int 0, .int 0, .null]))] sz) [(h0, .inr (3, [.ref tx, .ref co, .int 0, .int 0, .int 0, .int 0, .int 0, .int 0, .null]))]) (va_A [(h0, .inr (3, [.ref tx, .ref co, .int 0, .int 0, .int 0, .int 0, .int 0, .int 0, .null]))] sz)) 0 0 (va_A [(h0, .inr (3, [.ref tx, .ref co, .int 0, .int 0, .int 0, .int 0, .int 0, .int 0, .null]))] sz) := by
  refine Met.ofW (cc := prog_8_method_14_code) (maxL := 7) (ret := (some (.object "ChannelMachine$Process"))) (by decide) rfl ?_
  intro p e s m args below meth c s₁ B hml hv
  obtain ⟨rfl, hsz, hN0, hP, hU, hZ, hD0⟩ := hv
  have hK := hU.1
  have hx := B.exec
  have hb := B.bytes
  have hr := B.returns
  have hts : ∀ w ∈ x_T, w.before ([.ref h0, .null, .int 1] : List Value).toArray s = true := fun w h => atoms_spec (ws := (Jvm.Cond.code ({ cls := "ChannelMachine$Reader", name := "begin", desc := "(LChannelMachine$Process;I)LChannelMachine$Process;" } : Jvm.MethodName) prog_8_method_14_code (7 : Nat) (Option.some (Jvm.ClassFile.FieldType.object "ChannelMachine$Process"))) :: x_T) B.pre w (List.mem_cons_of_mem _ h)
  have hown : s.vm.findClass "ChannelMachine$Reader" = some m.cls := findClass_of_methodNamed B.named
  have hlocks := B.notSynchronized
  subst hsz
  have hD := hD0.self (sz := s.heap.size)
  have hAN := x_AN hD0 hN0
  generalize hAe : va_A [(h0, .inr (3, [.ref tx, .ref co, .int 0, .int 0, .int 0, .int 0, .int 0, .int 0, .null]))] s.heap.size = A at hD hAN ⊢
  have hA : ∀ q : Nat, s.heap.size ≤ q → A q := fun q h => by rw [← hAe]; exact Or.inr h
  have hS : va_S A s.heap s.heap [] := va_S.rf
  have hP : va_P (dC, dI) x_cl [(h0, .inr (3, [.ref tx, .ref co, .int 0, .int 0, .int 0, .int 0, .int 0, .int 0, .null]))] s.heap := hP
  have hl := lv_entry ([.ref h0, .null, .int 1]) (n := 7) (Nat.le_of_ble_eq_true rfl)
  rw [lg_entry_eq]
  generalize (lg_sl ([.ref h0, .null, .int 1]) ++ List.replicate (7 - (lg_sl ([.ref h0, .null, .int 1])).length) Slot.unset).toArray = ls at hl ⊢
  have hl : lv_has ls 7 [(0, .ref h0), (1, .null), (2, .int 1)] := hl
  have hH0 : s.heap.size ≤ s.heap.size := Nat.le_refl _
  refine lv_aload_n hx hb d_Reader_begin_0 rfl (lv_at hl 0 rfl) ?_
  have hPc := hP.sub (ws' := [(h0, .inr (3, [.ref tx, .ref co, .int 0, .int 0, .int 0, .int 0, .int 0, .int 0, .null]))]) [0] rfl
  have hDc := hD.sub (ws' := [(h0, .inr (3, [.ref tx, .ref co, .int 0, .int 0, .int 0, .int 0, .int 0, .int 0, .null]))]) [0] (by decide) rfl
  have hFc := va_free (wc := [(h0, .inr (3, [.ref tx, .ref co, .int 0, .int 0, .int 0, .int 0, .int 0, .int 0, .null]))]) hD hS hA [0] rfl
  refine va_calli (va_runV (As := []) (rest := []) ⟨hx, hb, hml, hown, hts⟩ (c_Reader_look l dC dI ar N0 z h0 tx co s.heap.size) (cwV 0 hts (x_goodV k_338 k_340 kp_3 k_2 k_341) rfl rfl rfl (by decide +kernel) ⟨Nat.le_of_ble_eq_true rfl, Nat.le_of_ble_eq_true rfl⟩) ⟨x_blind, va_recv hK hPc (ci := 3) (q0 := 0) rfl rfl, fun U hU9 hW => x_pre hU9 hW hPc hDc hU hZ hS hAN hN0⟩ rfl rfl hl.1 rfl (lv_room (Nat.le_of_ble_eq_true rfl)) d_Reader_begin_1 ⟨Nat.le_of_ble_eq_true rfl, Nat.le_of_ble_eq_true rfl⟩) hS (fun q _ h => hFc q h) hFc (fun r1 u2 t H1 locs ht hvm hw hB hz1 hk1 hS => ?_)
  obtain ⟨hP1, hD1⟩ := hB
  rw [ht] at hP1
  obtain ⟨hP, hD⟩ := va_join (wr := []) (w1 := [(h0, .inr (3, [.ref tx, .ref co, .int 0, .int 0, .int 0, .int 0, .int 0, .int 0, .null]))]) hP hD [0] [] rfl rfl (by decide) (by decide) hk1 hFc hP1 hD1
  generalize H1 = H at hP hS ⊢
  have hP : va_P (dC, dI) x_cl [(h0, .inr (3, [.ref tx, .ref co, .int 0, .int 0, .int 0, .int 0, .int 0, .int 0, .null]))] H := hP
  have hD : va_D A [(h0, .inr (3, [.ref tx, .ref co, .int 0, .int 0, .int 0, .int 0, .int 0, .int 0, .null]))] := hD
  refine W.widen (k := 0) (n := 0) (Nat.le_of_ble_eq_true rfl) (Nat.le_of_ble_eq_true rfl) ?_
  obtain rfl := hw
  refine lv_istore_n (lv' := [(3, .int 0), (0, .ref h0), (1, .null), (2, .int 1)]) hx hb d_Reader_begin_4 rfl hl (by decide) rfl (fun ls hl => ?_)
  refine lv_iload_n hx hb d_Reader_begin_5 rfl (lv_at hl 0 rfl) ?_
  refine lv_aload_n hx hb d_Reader_begin_6 rfl (lv_at hl 1 rfl) ?_
  have hPc := hP.sub (ws' := [(h0, .inr (3, [.ref tx, .ref co, .int 0, .int 0, .int 0, .int 0, .int 0, .int 0, .null]))]) [0] rfl
  have hDc := hD.sub (ws' := [(h0, .inr (3, [.ref tx, .ref co, .int 0, .int 0, .int 0, .int 0, .int 0, .int 0, .null]))]) [0] (by decide) rfl
  have hFc := va_free (wc := [(h0, .inr (3, [.ref tx, .ref co, .int 0, .int 0, .int 0, .int 0, .int 0, .int 0, .null]))]) hD hS hA [0] rfl
  refine va_calli (va_runV (As := []) (rest := [.int 0]) ⟨hx, hb, hml, hown, hts⟩ (c_Reader_lookBehindNext l dC dI ar N0 z h0 tx co H.size) (cwV 0 hts (x_goodV k_342 k_344 kp_4 k_2 k_345) rfl rfl rfl (by decide +kernel) ⟨Nat.le_of_ble_eq_true rfl, Nat.le_of_ble_eq_true rfl⟩) ⟨x_blind, va_recv hK hPc (ci := 3) (q0 := 0) rfl rfl, fun U hU9 hW => x_pre hU9 hW hPc hDc hU hZ hS hAN hN0⟩ rfl rfl hl.1 rfl (lv_room (Nat.le_of_ble_eq_true rfl)) d_Reader_begin_7 ⟨Nat.le_of_ble_eq_true rfl, Nat.le_of_ble_eq_true rfl⟩) hS (fun q _ h => hFc q h) hFc (fun r3 u4 t H1 locs ht hvm hw hB hz1 hk1 hS => ?_)
  obtain ⟨hP1, hD1⟩ := hB
  rw [ht] at hP1
  obtain ⟨hP, hD⟩ := va_join (wr := []) (w1 := [(h0, .inr (3, [.ref tx, .ref co, .int 0, .int 0, .int 0, .int 0, .int 0, .int 0, .null]))]) hP hD [0] [] rfl rfl (by decide) (by decide) hk1 hFc hP1 hD1
  generalize H1 = H at hP hS ⊢
  have hP : va_P (dC, dI) x_cl [(h0, .inr (3, [.ref tx, .ref co, .int 0, .int 0, .int 0, .int 0, .int 0, .int 0, .null]))] H := hP
  have hD : va_D A [(h0, .inr (3, [.ref tx, .ref co, .int 0, .int 0, .int 0, .int 0, .int 0, .int 0, .null]))] := hD
  refine W.widen (k := 0) (n := 0) (Nat.le_of_ble_eq_true rfl) (Nat.le_of_ble_eq_true rfl) ?_
  obtain rfl := hw
  have hPc := hP.sub (ws' := []) [] rfl
  have hDc := hD.sub (ws' := []) [] (by decide) rfl
  have hFc := va_free (wc := []) hD hS hA [] rfl
  refine va_callq (va_runS (As := [.int 0, .int 0]) (rest := []) ⟨hx, hb, hml, hown, hts⟩ (c_Reader_kindOf l dC dI ar N0 z H.size) (cwS 2 hts (x_goodS k_346 k_347 k_2 k_348) rfl rfl rfl (by decide +kernel) ⟨Nat.le_of_ble_eq_true rfl, Nat.le_of_ble_eq_true rfl⟩) ⟨x_blind, fun U hU9 hW => x_pre hU9 hW hPc hDc hU hZ hS hAN hN0⟩ rfl rfl hl.1 rfl (lv_room (Nat.le_of_ble_eq_true rfl)) d_Reader_begin_10 ⟨Nat.le_of_ble_eq_true rfl, Nat.le_of_ble_eq_true rfl⟩) hS (fun q _ h => hFc q h) hFc (fun r5 u6 t H1 locs ht hvm hw hB hz1 hk1 hS => ?_)
  obtain ⟨hP1, hD1⟩ := hB
  rw [ht] at hP1
  obtain ⟨hP, hD⟩ := va_join (wr := [(h0, .inr (3, [.ref tx, .ref co, .int 0, .int 0, .int 0, .int 0, .int 0, .int 0, .null]))]) (w1 := []) hP hD [] [0] rfl rfl (by decide) (by decide) hk1 hFc hP1 hD1
  generalize H1 = H at hP hS ⊢
  have hP : va_P (dC, dI) x_cl [(h0, .inr (3, [.ref tx, .ref co, .int 0, .int 0, .int 0, .int 0, .int 0, .int 0, .null]))] H := hP
  have hD : va_D A [(h0, .inr (3, [.ref tx, .ref co, .int 0, .int 0, .int 0, .int 0, .int 0, .int 0, .null]))] := hD
  refine W.widen (k := 0) (n := 0) (Nat.le_of_ble_eq_true rfl) (Nat.le_of_ble_eq_true rfl) ?_
  obtain rfl := hw
  refine W.eq (g2 := F0 m 13 ls [.null]) rfl ?_
  refine lv_astoreN (lv' := [(4, .null), (3, .int 0), (0, .ref h0), (1, .null), (2, .int 1)]) hx hb d_Reader_begin_13 hl (by decide) rfl (fun ls hl => ?_)
  refine lv_aloadN hx hb d_Reader_begin_15 (lv_at hl 0 rfl) ?_
  refine va_gets hx hb (hZ.2.2.2.1.narrow hAN) hS hown (hts _ k_359) (fun _ h9 => h9) d_Reader_begin_17 ?_
  refine lv_acmp_eq (rx := none) (ry := (some (z 1))) (tgt := 31) hx hb d_Reader_begin_20 (by decide) (fun c7 => by cases c7) (fun _ => ?_)
  refine lv_aloadN hx hb d_Reader_begin_23 (lv_at hl 0 rfl) ?_
  refine va_gets hx hb (hZ.2.2.2.2.narrow hAN) hS hown (hts _ k_361) (fun _ h9 => h9) d_Reader_begin_25 ?_
  refine lv_acmp_ne (rx := none) (ry := (some (z 2))) (tgt := 35) hx hb d_Reader_begin_28 (by decide) (fun _ => ?_) (fun c8 => by cases c8)
  refine lv_iconst (v := 0) hx hb d_Reader_begin_35 (by decide) ?_
  refine lv_istore (lv' := [(5, .int 0), (4, .null), (3, .int 0), (0, .ref h0), (1, .null), (2, .int 1)]) hx hb d_Reader_begin_36 hl (by decide) rfl (fun ls hl => ?_)
  refine lv_aloadN hx hb d_Reader_begin_38 (lv_at hl 1 rfl) ?_
  refine lv_ifnullN (tgt := 54) hx hb d_Reader_begin_40 (by decide) ?_
  refine lv_null hx hb d_Reader_begin_54 ?_
  refine W.widen (k := 0) (n := 0) (Nat.le_of_ble_eq_true rfl) (Nat.le_of_ble_eq_true rfl) ?_
  exact W.aret (v := .null) hx hb hr (Or.inl ⟨_, rfl⟩) (Or.inl rfl) (fun t ht hW => ⟨⟨none, (), rfl, rfl, ⟨by rw [ht]; exact hP, hD⟩⟩, hS.F ht⟩) hS.2.2 d_Reader_begin_55
set_option maxHeartbeats 4000000 in
set_option maxRecDepth 100000 in
theorem c_Reader_process (l : Launch) (dC : Nat → ClassId) (dI : Nat → Nat → Nat) (ar : Nat → ClassId) (N0 : Nat) (z : Nat → Nat) (h0 tx co : Nat) (sz : Nat) : Met l ({ cls := "ChannelMachine$Reader", name := "process", desc := "(LChannelMachine$Process;IZ)Z" } : Jvm.MethodName) ((Jvm.Cond.code ({ cls := "ChannelMachine$Reader", name := "process", desc := "(LChannelMachine$Process;IZ)Z" } : Jvm.MethodName) prog_8_method_13_code (5 : Nat) (Option.some Jvm.ClassFile.FieldType.boolean)) :: x_T) ({ frames := 3, cells := 0, slots := 0, locals := 67 }) (x_Pc (dC, dI) ar N0 z [(h0, .inr (3, [.ref tx, .ref co, .int 0, .int 0, .int 0, .int 0, .int 0, .int 0, .null]))] sz [.ref h0, .null, .int 1, .int 0]) (va_Qi (fun (r : Int32) (u : Unit) => r = 0) (fun u t => va_P (dC, dI) x_cl [(h0, .inr (3, [.ref tx, .ref co, .int 0, .int 0, .int 0, .int 0, .int 0, .int 0, .null]))] t.heap ∧ va_D (va_A [(h0, .inr (3, [.ref tx, .ref co, .int 0, .int 0, .int 0, .int 0, .int 0, .int 0, .null]))] sz) [(h0, .inr (3, [.ref tx, .ref co, .int 0, .int 0, .int 0, .int 0, .int 0, .int 0, .null]))]) (va_A [(h0, .inr (3, [.ref tx, .ref co, .int 0, .int 0, .int 0, .int 0, .int 0, .int 0, .null]))] sz)) 0 0 (va_A [(h0, .inr (3, [.ref tx, .ref co, .int 0, .int 0, .int 0, .int 0, .int 0, .int 0, .null]))] sz) := by
  refine Met.ofW (cc := prog_8_method_13_code) (maxL := 5) (ret := (some .boolean)) (by decide) rfl ?_
  intro p e s m args below meth c s₁ B hml hv
  obtain ⟨rfl, hsz, hN0, hP, hU, hZ, hD0⟩ := hv
  have hK := hU.1
  have hx := B.exec
  have hb := B.bytes
  have hr := B.returns
  have hts : ∀ w ∈ x_T, w.before ([.ref h0, .null, .int 1, .int 0] : List Value).toArray s = true := fun w h => atoms_spec (ws := (Jvm.Cond.code ({ cls := "ChannelMachine$Reader", name := "process", desc := "(LChannelMachine$Process;IZ)Z" } : Jvm.MethodName) prog_8_method_13_code (5 : Nat) (Option.some Jvm.ClassFile.FieldType.boolean)) :: x_T) B.pre w (List.mem_cons_of_mem _ h)
  have hown : s.vm.findClass "ChannelMachine$Reader" = some m.cls := findClass_of_methodNamed B.named
  have hlocks := B.notSynchronized
  subst hsz
  have hD := hD0.self (sz := s.heap.size)
  have hAN := x_AN hD0 hN0
  generalize hAe : va_A [(h0, .inr (3, [.ref tx, .ref co, .int 0, .int 0, .int 0, .int 0, .int 0, .int 0, .null]))] s.heap.size = A at hD hAN ⊢
  have hA : ∀ q : Nat, s.heap.size ≤ q → A q := fun q h => by rw [← hAe]; exact Or.inr h
  have hS : va_S A s.heap s.heap [] := va_S.rf
  have hP : va_P (dC, dI) x_cl [(h0, .inr (3, [.ref tx, .ref co, .int 0, .int 0, .int 0, .int 0, .int 0, .int 0, .null]))] s.heap := hP
  have hl := lv_entry ([.ref h0, .null, .int 1, .int 0]) (n := 5) (Nat.le_of_ble_eq_true rfl)
  rw [lg_entry_eq]
  generalize (lg_sl ([.ref h0, .null, .int 1, .int 0]) ++ List.replicate (5 - (lg_sl ([.ref h0, .null, .int 1, .int 0])).length) Slot.unset).toArray = ls at hl ⊢
  have hl : lv_has ls 5 [(0, .ref h0), (1, .null), (2, .int 1), (3, .int 0)] := hl
  have hH0 : s.heap.size ≤ s.heap.size := Nat.le_refl _
  refine lv_iload_n hx hb d_Reader_process_0 rfl (lv_at hl 2 rfl) ?_
  refine lv_bipush (v := 7) hx hb d_Reader_process_1 (by decide) ?_
  refine lv_icmp_le (tgt := 10) hx hb d_Reader_process_3 (by decide) (fun _ => ?_) (fun c1 => absurd (by decide) c1)
  refine lv_aload_n hx hb d_Reader_process_10 rfl (lv_at hl 0 rfl) ?_
  refine lv_aload_nN hx hb d_Reader_process_11 rfl (lv_at hl 1 rfl) ?_
  refine lv_iload_n hx hb d_Reader_process_12 rfl (lv_at hl 2 rfl) ?_
  have hPc := hP.sub (ws' := [(h0, .inr (3, [.ref tx, .ref co, .int 0, .int 0, .int 0, .int 0, .int 0, .int 0, .null]))]) [0] rfl
  have hDc := hD.sub (ws' := [(h0, .inr (3, [.ref tx, .ref co, .int 0, .int 0, .int 0, .int 0, .int 0, .int 0, .null]))]) [0] (by decide) rfl
  have hFc := va_free (wc := [(h0, .inr (3, [.ref tx, .ref co, .int 0, .int 0, .int 0, .int 0, .int 0, .int 0, .null]))]) hD hS hA [0] rfl
  refine va_callq (va_runV (As := [.null, .int 1]) (rest := []) ⟨hx, hb, hml, hown, hts⟩ (c_Reader_begin l dC dI ar N0 z h0 tx co s.heap.size) (cwV 2 hts (x_goodV k_334 k_336 kp_2 k_2 k_337) rfl rfl rfl (by decide +kernel) ⟨Nat.le_of_ble_eq_true rfl, Nat.le_of_ble_eq_true rfl⟩) ⟨x_blind, va_recv hK hPc (ci := 3) (q0 := 0) rfl rfl, fun U hU9 hW => x_pre hU9 hW hPc hDc hU hZ hS hAN hN0⟩ rfl rfl hl.1 rfl (lv_room (Nat.le_of_ble_eq_true rfl)) d_Reader_process_13 ⟨Nat.le_of_ble_eq_true rfl, Nat.le_of_ble_eq_true rfl⟩) hS (fun q _ h => hFc q h) hFc (fun r2 u3 t H1 locs ht hvm hw hB hz1 hk1 hS => ?_)
  obtain ⟨hP1, hD1⟩ := hB
  rw [ht] at hP1
  obtain ⟨hP, hD⟩ := va_join (wr := []) (w1 := [(h0, .inr (3, [.ref tx, .ref co, .int 0, .int 0, .int 0, .int 0, .int 0, .int 0, .null]))]) hP hD [0] [] rfl rfl (by decide) (by decide) hk1 hFc hP1 hD1
  generalize H1 = H at hP hS ⊢
  have hP : va_P (dC, dI) x_cl [(h0, .inr (3, [.ref tx, .ref co, .int 0, .int 0, .int 0, .int 0, .int 0, .int 0, .null]))] H := hP
  have hD : va_D A [(h0, .inr (3, [.ref tx, .ref co, .int 0, .int 0, .int 0, .int 0, .int 0, .int 0, .null]))] := hD
  refine W.widen (k := 0) (n := 0) (Nat.le_of_ble_eq_true rfl) (Nat.le_of_ble_eq_true rfl) ?_
  obtain rfl := hw
  refine W.eq (g2 := F0 m 16 ls [.null]) rfl ?_
  refine lv_astoreN (lv' := [(4, .null), (0, .ref h0), (1, .null), (2, .int 1), (3, .int 0)]) hx hb d_Reader_process_16 hl (by decide) rfl (fun ls hl => ?_)
  refine lv_aloadN hx hb d_Reader_process_18 (lv_at hl 0 rfl) ?_
  refine lv_ifnonnullN hx hb d_Reader_process_20 ?_
  refine lv_aload_n hx hb d_Reader_process_23 rfl (lv_at hl 1 rfl) ?_
  have hPc := hP.sub (ws' := [(h0, .inr (3, [.ref tx, .ref co, .int 0, .int 0, .int 0, .int 0, .int 0, .int 0, .null]))]) [0] rfl
  have hDc := hD.sub (ws' := [(h0, .inr (3, [.ref tx, .ref co, .int 0, .int 0, .int 0, .int 0, .int 0, .int 0, .null]))]) [0] (by decide) rfl
  have hFc := va_free (wc := [(h0, .inr (3, [.ref tx, .ref co, .int 0, .int 0, .int 0, .int 0, .int 0, .int 0, .null]))]) hD hS hA [0] rfl
  refine va_calli (va_runV (As := []) (rest := []) ⟨hx, hb, hml, hown, hts⟩ (c_Reader_refuse l dC dI ar N0 z h0 tx co H.size) (cwV 0 hts (x_goodV k_477 k_479 kp_6 k_2 k_480) rfl rfl rfl (by decide +kernel) ⟨Nat.le_of_ble_eq_true rfl, Nat.le_of_ble_eq_true rfl⟩) ⟨x_blind, va_recv hK hPc (ci := 3) (q0 := 0) rfl rfl, fun U hU9 hW => x_pre hU9 hW hPc hDc hU hZ hS hAN hN0⟩ rfl rfl hl.1 rfl (lv_room (Nat.le_of_ble_eq_true rfl)) d_Reader_process_24 ⟨Nat.le_of_ble_eq_true rfl, Nat.le_of_ble_eq_true rfl⟩) hS (fun q _ h => hFc q h) hFc (fun r4 u5 t H1 locs ht hvm hw hB hz1 hk1 hS => ?_)
  obtain ⟨hP1, hD1⟩ := hB
  rw [ht] at hP1
  obtain ⟨hP, hD⟩ := va_join (wr := []) (w1 := [(h0, .inr (3, [.ref tx, .ref co, .int 0, .int 0, .int 0, .int 0, .int 0, .int 0, .null]))]) hP hD [0] [] rfl rfl (by decide) (by decide) hk1 hFc hP1 hD1
  generalize H1 = H at hP hS ⊢
  have hP : va_P (dC, dI) x_cl [(h0, .inr (3, [.ref tx, .ref co, .int 0, .int 0, .int 0, .int 0, .int 0, .int 0, .null]))] H := hP
  have hD : va_D A [(h0, .inr (3, [.ref tx, .ref co, .int 0, .int 0, .int 0, .int 0, .int 0, .int 0, .null]))] := hD
  refine W.widen (k := 0) (n := 0) (Nat.le_of_ble_eq_true rfl) (Nat.le_of_ble_eq_true rfl) ?_
  obtain rfl := hw
  refine W.widen (k := 0) (n := 0) (Nat.le_of_ble_eq_true rfl) (Nat.le_of_ble_eq_true rfl) ?_
  exact W.zret (v := 0) hx hb hr (rfl) (fun t ht hW => ⟨⟨0, (), rfl, rfl, ⟨by rw [ht]; exact hP, hD⟩⟩, hS.F ht⟩) hS.2.2 d_Reader_process_27
end
section
-- ===== 14.load2: load of the empty text, by program =====
theorem k_321 : (Jvm.Cond.codeWith ({ cls := "ChannelMachineLaw", name := "load", desc := "(LChannelMachine;[J)I" } : Jvm.MethodName) method_4_code (3 : Nat) (Option.some Jvm.ClassFile.FieldType.int) [((0 : Nat), (8 : Nat), (11 : Nat), (13 : Nat))]) ∈ x_T := x_at 321 (by decide +kernel) (by decide +kernel)
theorem k_322 : (Jvm.Cond.methodLink "ChannelMachineLaw" (17 : Nat) ({ cls := "ChannelMachine", name := "load", desc := "()I" } : Jvm.MethodName)) ∈ x_T := x_at 322 (by decide +kernel) (by decide +kernel)
theorem k_323 : (Jvm.Cond.instanceMethod ({ cls := "ChannelMachine", name := "load", desc := "()I" } : Jvm.MethodName)) ∈ x_T := x_at 323 (by decide +kernel) (by decide +kernel)
theorem k_324 : (Jvm.Cond.selects "ChannelMachine" ({ cls := "ChannelMachine", name := "load", desc := "()I" } : Jvm.MethodName) ({ cls := "ChannelMachine", name := "load", desc := "()I" } : Jvm.MethodName)) ∈ x_T := x_at 324 (by decide +kernel) (by decide +kernel)
theorem k_325 : (Jvm.Cond.code ({ cls := "ChannelMachine", name := "load", desc := "()I" } : Jvm.MethodName) prog_1_method_4_code (2 : Nat) (Option.some Jvm.ClassFile.FieldType.int)) ∈ x_T := x_at 325 (by decide +kernel) (by decide +kernel)
theorem k_326 : (Jvm.Cond.methodLink "ChannelMachine" (50 : Nat) ({ cls := "ChannelMachine$Reader", name := "start", desc := "()V" } : Jvm.MethodName)) ∈ x_T := x_at 326 (by decide +kernel) (by decide +kernel)
theorem k_327 : (Jvm.Cond.instanceMethod ({ cls := "ChannelMachine$Reader", name := "start", desc := "()V" } : Jvm.MethodName)) ∈ x_T := x_at 327 (by decide +kernel) (by decide +kernel)
theorem k_328 : (Jvm.Cond.selects "ChannelMachine$Reader" ({ cls := "ChannelMachine$Reader", name := "start", desc := "()V" } : Jvm.MethodName) ({ cls := "ChannelMachine$Reader", name := "start", desc := "()V" } : Jvm.MethodName)) ∈ x_T := x_at 328 (by decide +kernel) (by decide +kernel)
theorem k_329 : (Jvm.Cond.code ({ cls := "ChannelMachine$Reader", name := "start", desc := "()V" } : Jvm.MethodName) prog_8_method_3_code (1 : Nat) (Option.none : Option Jvm.ClassFile.FieldType)) ∈ x_T := x_at 329 (by decide +kernel) (by decide +kernel)
theorem k_332 : (Jvm.Cond.instanceMethod ({ cls := "ChannelMachine$Reader", name := "process", desc := "(LChannelMachine$Process;IZ)Z" } : Jvm.MethodName)) ∈ x_T := x_at 332 (by decide +kernel) (by decide +kernel)
theorem k_333 : (Jvm.Cond.code ({ cls := "ChannelMachine$Reader", name := "process", desc := "(LChannelMachine$Process;IZ)Z" } : Jvm.MethodName) prog_8_method_13_code (5 : Nat) (Option.some Jvm.ClassFile.FieldType.boolean)) ∈ x_T := x_at 333 (by decide +kernel) (by decide +kernel)
theorem k_971 : (Jvm.Cond.fieldLink "ChannelMachineModel" (114 : Nat) "ChannelMachineModel" "size" "I") ∈ x_T := x_at 971 (by decide +kernel) (by decide +kernel)
theorem k_973 : (Jvm.Cond.fieldLink "ChannelMachineModel" (121 : Nat) "ChannelMachineModel" "pos" "I") ∈ x_T := x_at 973 (by decide +kernel) (by decide +kernel)
theorem k_974 : (Jvm.Cond.fieldLink "ChannelMachineModel" (128 : Nat) "ChannelMachineModel" "at" "I") ∈ x_T := x_at 974 (by decide +kernel) (by decide +kernel)
theorem k_1140 : (Jvm.Cond.methodLink "ChannelMachineModel" (124 : Nat) ({ cls := "ChannelMachineModel", name := "look", desc := "()I" } : Jvm.MethodName)) ∈ x_T := x_at 1140 (by decide +kernel) (by decide +kernel)
theorem k_1142 : (Jvm.Cond.instanceMethod ({ cls := "ChannelMachineModel", name := "look", desc := "()I" } : Jvm.MethodName)) ∈ x_T := x_at 1142 (by decide +kernel) (by decide +kernel)
theorem k_1143 : (Jvm.Cond.code ({ cls := "ChannelMachineModel", name := "look", desc := "()I" } : Jvm.MethodName) prog_12_method_7_code (1 : Nat) (Option.some Jvm.ClassFile.FieldType.int)) ∈ x_T := x_at 1143 (by decide +kernel) (by decide +kernel)
theorem k_1164 : (Jvm.Cond.methodLink "ChannelMachineModel" (142 : Nat) ({ cls := "ChannelMachineModel", name := "isVariable", desc := "()Z" } : Jvm.MethodName)) ∈ x_T := x_at 1164 (by decide +kernel) (by decide +kernel)
theorem k_1166 : (Jvm.Cond.instanceMethod ({ cls := "ChannelMachineModel", name := "isVariable", desc := "()Z" } : Jvm.MethodName)) ∈ x_T := x_at 1166 (by decide +kernel) (by decide +kernel)
theorem k_1167 : (Jvm.Cond.code ({ cls := "ChannelMachineModel", name := "isVariable", desc := "()Z" } : Jvm.MethodName) prog_12_method_11_code (1 : Nat) (Option.some Jvm.ClassFile.FieldType.boolean)) ∈ x_T := x_at 1167 (by decide +kernel) (by decide +kernel)
theorem k_1179 : (Jvm.Cond.methodLink "ChannelMachineModel" (162 : Nat) ({ cls := "ChannelMachineModel", name := "channelOf", desc := "(I)I" } : Jvm.MethodName)) ∈ x_T := x_at 1179 (by decide +kernel) (by decide +kernel)
theorem k_1180 : (Jvm.Cond.static ({ cls := "ChannelMachineModel", name := "channelOf", desc := "(I)I" } : Jvm.MethodName)) ∈ x_T := x_at 1180 (by decide +kernel) (by decide +kernel)
theorem k_1181 : (Jvm.Cond.code ({ cls := "ChannelMachineModel", name := "channelOf", desc := "(I)I" } : Jvm.MethodName) prog_12_method_17_code (1 : Nat) (Option.some Jvm.ClassFile.FieldType.int)) ∈ x_T := x_at 1181 (by decide +kernel) (by decide +kernel)
theorem kn_46 : (Jvm.Cond.fieldLinkNest "ChannelMachine" (38 : Nat) "ChannelMachine$Reader" "length" "I" "ChannelMachine") ∈ x_nest := x_nest_at 46 (by decide +kernel) (by decide +kernel)
theorem kn_51 : (Jvm.Cond.fieldLinkNest "ChannelMachine" (61 : Nat) "ChannelMachine$Reader" "place" "I" "ChannelMachine") ∈ x_nest := x_nest_at 51 (by decide +kernel) (by decide +kernel)
theorem kn_330 : (Jvm.Cond.methodLinkNest "ChannelMachine" (53 : Nat) ({ cls := "ChannelMachine$Reader", name := "process", desc := "(LChannelMachine$Process;IZ)Z" } : Jvm.MethodName) "ChannelMachine") ∈ x_nest := x_nest_at 330 (by decide +kernel) (by decide +kernel)
theorem kp_1 : (Jvm.Cond.selects "ChannelMachine$Reader" ({ cls := "ChannelMachine$Reader", name := "process", desc := "(LChannelMachine$Process;IZ)Z" } : Jvm.MethodName) ({ cls := "ChannelMachine$Reader", name := "process", desc := "(LChannelMachine$Process;IZ)Z" } : Jvm.MethodName)) ∈ x_T := x_sel (q := (({ cls := "ChannelMachine$Reader", name := "process", desc := "(LChannelMachine$Process;IZ)Z" } : Jvm.MethodName), 9)) 1 (by decide +kernel) (by decide +kernel)
theorem kp_53 : (Jvm.Cond.selects "ChannelMachineModel" ({ cls := "ChannelMachineModel", name := "look", desc := "()I" } : Jvm.MethodName) ({ cls := "ChannelMachineModel", name := "look", desc := "()I" } : Jvm.MethodName)) ∈ x_T := x_sel (q := (({ cls := "ChannelMachineModel", name := "look", desc := "()I" } : Jvm.MethodName), 45)) 53 (by decide +kernel) (by decide +kernel)
theorem kp_59 : (Jvm.Cond.selects "ChannelMachineModel" ({ cls := "ChannelMachineModel", name := "isVariable", desc := "()Z" } : Jvm.MethodName) ({ cls := "ChannelMachineModel", name := "isVariable", desc := "()Z" } : Jvm.MethodName)) ∈ x_T := x_sel (q := (({ cls := "ChannelMachineModel", name := "isVariable", desc := "()Z" } : Jvm.MethodName), 45)) 59 (by decide +kernel) (by decide +kernel)
theorem d_CM_load_0 : decode prog_1_method_4_code 0 = .ok (.aload_n 0, 1) := by decide +kernel
theorem d_CM_load_1 : decode prog_1_method_4_code 1 = .ok (.getfield 10, 3) := by decide +kernel
theorem d_CM_load_4 : decode prog_1_method_4_code 4 = .ok (.invokevirtual 50, 3) := by decide +kernel
theorem d_CM_load_7 : decode prog_1_method_4_code 7 = .ok (.aload_n 0, 1) := by decide +kernel
theorem d_CM_load_8 : decode prog_1_method_4_code 8 = .ok (.getfield 10, 3) := by decide +kernel
theorem d_CM_load_11 : decode prog_1_method_4_code 11 = .ok (.aconst_null, 1) := by decide +kernel
theorem d_CM_load_12 : decode prog_1_method_4_code 12 = .ok (.iconst 1, 1) := by decide +kernel
theorem d_CM_load_13 : decode prog_1_method_4_code 13 = .ok (.iconst 0, 1) := by decide +kernel
theorem d_CM_load_14 : decode prog_1_method_4_code 14 = .ok (.invokevirtual 53, 3) := by decide +kernel
theorem d_CM_load_17 : decode prog_1_method_4_code 17 = .ok (.ifCond .eq 17, 3) := by decide +kernel
theorem d_CM_load_20 : decode prog_1_method_4_code 20 = .ok (.aload_n 0, 1) := by decide +kernel
theorem d_CM_load_21 : decode prog_1_method_4_code 21 = .ok (.getfield 10, 3) := by decide +kernel
theorem d_CM_load_24 : decode prog_1_method_4_code 24 = .ok (.invokevirtual 57, 3) := by decide +kernel
theorem d_CM_load_27 : decode prog_1_method_4_code 27 = .ok (.ifCond .eq 7, 3) := by decide +kernel
theorem d_CM_load_30 : decode prog_1_method_4_code 30 = .ok (.iconst 1, 1) := by decide +kernel
theorem d_CM_load_31 : decode prog_1_method_4_code 31 = .ok (.goto 4, 3) := by decide +kernel
theorem d_CM_load_34 : decode prog_1_method_4_code 34 = .ok (.iconst 0, 1) := by decide +kernel
theorem d_CM_load_35 : decode prog_1_method_4_code 35 = .ok (.istore_n 1, 1) := by decide +kernel
theorem d_CM_load_36 : decode prog_1_method_4_code 36 = .ok (.aload_n 0, 1) := by decide +kernel
theorem d_CM_load_37 : decode prog_1_method_4_code 37 = .ok (.getfield 10, 3) := by decide +kernel
theorem d_CM_load_40 : decode prog_1_method_4_code 40 = .ok (.iconst 0, 1) := by decide +kernel
theorem d_CM_load_41 : decode prog_1_method_4_code 41 = .ok (.putfield 38, 3) := by decide +kernel
theorem d_CM_load_44 : decode prog_1_method_4_code 44 = .ok (.iload_n 1, 1) := by decide +kernel
theorem d_CM_load_45 : decode prog_1_method_4_code 45 = .ok (.ifCond .ne 24, 3) := by decide +kernel
theorem d_CM_load_48 : decode prog_1_method_4_code 48 = .ok (.aload_n 0, 1) := by decide +kernel
theorem d_CM_load_49 : decode prog_1_method_4_code 49 = .ok (.aload_n 0, 1) := by decide +kernel
theorem d_CM_load_50 : decode prog_1_method_4_code 50 = .ok (.getfield 10, 3) := by decide +kernel
theorem d_CM_load_53 : decode prog_1_method_4_code 53 = .ok (.getfield 61, 3) := by decide +kernel
theorem d_CM_load_56 : decode prog_1_method_4_code 56 = .ok (.putfield 23, 3) := by decide +kernel
theorem d_CM_load_59 : decode prog_1_method_4_code 59 = .ok (.new 31, 3) := by decide +kernel
theorem d_CM_load_62 : decode prog_1_method_4_code 62 = .ok (.dup, 1) := by decide +kernel
theorem d_CM_load_63 : decode prog_1_method_4_code 63 = .ok (.ldc 62, 2) := by decide +kernel
theorem d_CM_load_65 : decode prog_1_method_4_code 65 = .ok (.invokespecial 35, 3) := by decide +kernel
theorem d_CM_load_68 : decode prog_1_method_4_code 68 = .ok (.athrow, 1) := by decide +kernel
theorem d_CM_load_69 : decode prog_1_method_4_code 69 = .ok (.aload_n 0, 1) := by decide +kernel
theorem d_CM_load_70 : decode prog_1_method_4_code 70 = .ok (.getfield 19, 3) := by decide +kernel
theorem d_CM_load_73 : decode prog_1_method_4_code 73 = .ok (.aload_n 0, 1) := by decide +kernel
theorem d_CM_load_74 : decode prog_1_method_4_code 74 = .ok (.getfield 10, 3) := by decide +kernel
theorem d_CM_load_77 : decode prog_1_method_4_code 77 = .ok (.getfield 64, 3) := by decide +kernel
theorem d_CM_load_80 : decode prog_1_method_4_code 80 = .ok (.getfield 68, 3) := by decide +kernel
theorem d_CM_load_83 : decode prog_1_method_4_code 83 = .ok (.invokevirtual 74, 3) := by decide +kernel
theorem d_CM_load_86 : decode prog_1_method_4_code 86 = .ok (.aload_n 0, 1) := by decide +kernel
theorem d_CM_load_87 : decode prog_1_method_4_code 87 = .ok (.getfield 10, 3) := by decide +kernel
theorem d_CM_load_90 : decode prog_1_method_4_code 90 = .ok (.getfield 78, 3) := by decide +kernel
theorem d_CM_load_93 : decode prog_1_method_4_code 93 = .ok (.ireturn, 1) := by decide +kernel
theorem d_La_load_0 : decode method_4_code 0 = .ok (.aload_n 1, 1) := by decide +kernel
theorem d_La_load_1 : decode method_4_code 1 = .ok (.iconst 0, 1) := by decide +kernel
theorem d_La_load_2 : decode method_4_code 2 = .ok (.aload_n 0, 1) := by decide +kernel
theorem d_La_load_3 : decode method_4_code 3 = .ok (.invokevirtual 17, 3) := by decide +kernel
theorem d_La_load_6 : decode method_4_code 6 = .ok (.i2l, 1) := by decide +kernel
theorem d_La_load_7 : decode method_4_code 7 = .ok (.lastore, 1) := by decide +kernel
theorem d_La_load_8 : decode method_4_code 8 = .ok (.goto 6, 3) := by decide +kernel
theorem d_La_load_11 : decode method_4_code 11 = .ok (.astore_n 2, 1) := by decide +kernel
theorem d_La_load_12 : decode method_4_code 12 = .ok (.iconst 1, 1) := by decide +kernel
theorem d_La_load_13 : decode method_4_code 13 = .ok (.ireturn, 1) := by decide +kernel
theorem d_La_load_14 : decode method_4_code 14 = .ok (.iconst 0, 1) := by decide +kernel
theorem d_La_load_15 : decode method_4_code 15 = .ok (.ireturn, 1) := by decide +kernel
theorem d_Mo_look_0 : decode prog_12_method_7_code 0 = .ok (.aload_n 0, 1) := by decide +kernel
theorem d_Mo_look_1 : decode prog_12_method_7_code 1 = .ok (.getfield 121, 3) := by decide +kernel
theorem d_Mo_look_4 : decode prog_12_method_7_code 4 = .ok (.aload_n 0, 1) := by decide +kernel
theorem d_Mo_look_5 : decode prog_12_method_7_code 5 = .ok (.getfield 114, 3) := by decide +kernel
theorem d_Mo_look_8 : decode prog_12_method_7_code 8 = .ok (.if_icmp .ge 15, 3) := by decide +kernel
theorem d_Mo_look_11 : decode prog_12_method_7_code 11 = .ok (.aload_n 0, 1) := by decide +kernel
theorem d_Mo_look_12 : decode prog_12_method_7_code 12 = .ok (.getfield 7, 3) := by decide +kernel
theorem d_Mo_look_15 : decode prog_12_method_7_code 15 = .ok (.aload_n 0, 1) := by decide +kernel
theorem d_Mo_look_16 : decode prog_12_method_7_code 16 = .ok (.getfield 121, 3) := by decide +kernel
theorem d_Mo_look_19 : decode prog_12_method_7_code 19 = .ok (.iaload, 1) := by decide +kernel
theorem d_Mo_look_20 : decode prog_12_method_7_code 20 = .ok (.goto 4, 3) := by decide +kernel
theorem d_Mo_look_23 : decode prog_12_method_7_code 23 = .ok (.iconst 0, 1) := by decide +kernel
theorem d_Mo_look_24 : decode prog_12_method_7_code 24 = .ok (.ireturn, 1) := by decide +kernel
theorem d_Mo_channelOf_0 : decode prog_12_method_17_code 0 = .ok (.iload_n 0, 1) := by decide +kernel
theorem d_Mo_channelOf_1 : decode prog_12_method_17_code 1 = .ok (.bipush 73, 2) := by decide +kernel
theorem d_Mo_channelOf_3 : decode prog_12_method_17_code 3 = .ok (.if_icmp .ne 7, 3) := by decide +kernel
theorem d_Mo_channelOf_6 : decode prog_12_method_17_code 6 = .ok (.iconst 4, 1) := by decide +kernel
theorem d_Mo_channelOf_7 : decode prog_12_method_17_code 7 = .ok (.goto 32, 3) := by decide +kernel
theorem d_Mo_channelOf_10 : decode prog_12_method_17_code 10 = .ok (.iload_n 0, 1) := by decide +kernel
theorem d_Mo_channelOf_11 : decode prog_12_method_17_code 11 = .ok (.bipush 79, 2) := by decide +kernel
theorem d_Mo_channelOf_13 : decode prog_12_method_17_code 13 = .ok (.if_icmp .ne 7, 3) := by decide +kernel
theorem d_Mo_channelOf_16 : decode prog_12_method_17_code 16 = .ok (.iconst 5, 1) := by decide +kernel
theorem d_Mo_channelOf_17 : decode prog_12_method_17_code 17 = .ok (.goto 22, 3) := by decide +kernel
theorem d_Mo_channelOf_20 : decode prog_12_method_17_code 20 = .ok (.iload_n 0, 1) := by decide +kernel
theorem d_Mo_channelOf_21 : decode prog_12_method_17_code 21 = .ok (.bipush 65, 2) := by decide +kernel
theorem d_Mo_channelOf_23 : decode prog_12_method_17_code 23 = .ok (.bipush 68, 2) := by decide +kernel
theorem d_Mo_channelOf_25 : decode prog_12_method_17_code 25 = .ok (.invokestatic 106, 3) := by decide +kernel
theorem d_Mo_channelOf_28 : decode prog_12_method_17_code 28 = .ok (.ifCond .eq 10, 3) := by decide +kernel
theorem d_Mo_channelOf_31 : decode prog_12_method_17_code 31 = .ok (.iload_n 0, 1) := by decide +kernel
theorem d_Mo_channelOf_32 : decode prog_12_method_17_code 32 = .ok (.bipush 65, 2) := by decide +kernel
theorem d_Mo_channelOf_34 : decode prog_12_method_17_code 34 = .ok (.isub, 1) := by decide +kernel
theorem d_Mo_channelOf_35 : decode prog_12_method_17_code 35 = .ok (.goto 4, 3) := by decide +kernel
theorem d_Mo_channelOf_38 : decode prog_12_method_17_code 38 = .ok (.iconst (-1), 1) := by decide +kernel
theorem d_Mo_channelOf_39 : decode prog_12_method_17_code 39 = .ok (.ireturn, 1) := by decide +kernel
theorem d_Mo_isVariable_0 : decode prog_12_method_11_code 0 = .ok (.aload_n 0, 1) := by decide +kernel
theorem d_Mo_isVariable_1 : decode prog_12_method_11_code 1 = .ok (.invokevirtual 124, 3) := by decide +kernel
theorem d_Mo_isVariable_4 : decode prog_12_method_11_code 4 = .ok (.bipush 97, 2) := by decide +kernel
theorem d_Mo_isVariable_6 : decode prog_12_method_11_code 6 = .ok (.bipush 102, 2) := by decide +kernel
theorem d_Mo_isVariable_8 : decode prog_12_method_11_code 8 = .ok (.invokestatic 106, 3) := by decide +kernel
theorem d_Mo_isVariable_11 : decode prog_12_method_11_code 11 = .ok (.ireturn, 1) := by decide +kernel
theorem d_Mo_start_0 : decode prog_12_method_18_code 0 = .ok (.aload_n 0, 1) := by decide +kernel
theorem d_Mo_start_1 : decode prog_12_method_18_code 1 = .ok (.invokevirtual 124, 3) := by decide +kernel
theorem d_Mo_start_4 : decode prog_12_method_18_code 4 = .ok (.istore_n 2, 1) := by decide +kernel
theorem d_Mo_start_5 : decode prog_12_method_18_code 5 = .ok (.aload_n 0, 1) := by decide +kernel
theorem d_Mo_start_6 : decode prog_12_method_18_code 6 = .ok (.getfield 128, 3) := by decide +kernel
theorem d_Mo_start_9 : decode prog_12_method_18_code 9 = .ok (.istore_n 3, 1) := by decide +kernel
theorem d_Mo_start_10 : decode prog_12_method_18_code 10 = .ok (.iload_n 2, 1) := by decide +kernel
theorem d_Mo_start_11 : decode prog_12_method_18_code 11 = .ok (.invokestatic 162, 3) := by decide +kernel
theorem d_Mo_start_14 : decode prog_12_method_18_code 14 = .ok (.istore 4, 2) := by decide +kernel
theorem d_Mo_start_16 : decode prog_12_method_18_code 16 = .ok (.iload_n 1, 1) := by decide +kernel
theorem d_Mo_start_17 : decode prog_12_method_18_code 17 = .ok (.bipush 7, 2) := by decide +kernel
theorem d_Mo_start_19 : decode prog_12_method_18_code 19 = .ok (.if_icmp .gt 21, 3) := by decide +kernel
theorem d_Mo_start_22 : decode prog_12_method_18_code 22 = .ok (.iload_n 1, 1) := by decide +kernel
theorem d_Mo_start_23 : decode prog_12_method_18_code 23 = .ok (.bipush 7, 2) := by decide +kernel
theorem d_Mo_start_25 : decode prog_12_method_18_code 25 = .ok (.if_icmp .ne 17, 3) := by decide +kernel
theorem d_Mo_start_28 : decode prog_12_method_18_code 28 = .ok (.iload_n 2, 1) := by decide +kernel
theorem d_Mo_start_29 : decode prog_12_method_18_code 29 = .ok (.bipush 94, 2) := by decide +kernel
theorem d_Mo_start_31 : decode prog_12_method_18_code 31 = .ok (.if_icmp .eq 9, 3) := by decide +kernel
theorem d_Mo_start_34 : decode prog_12_method_18_code 34 = .ok (.iload_n 2, 1) := by decide +kernel
theorem d_Mo_start_35 : decode prog_12_method_18_code 35 = .ok (.bipush 63, 2) := by decide +kernel
theorem d_Mo_start_37 : decode prog_12_method_18_code 37 = .ok (.if_icmp .ne 5, 3) := by decide +kernel
theorem d_Mo_start_40 : decode prog_12_method_18_code 40 = .ok (.iconst (-1), 1) := by decide +kernel
theorem d_Mo_start_41 : decode prog_12_method_18_code 41 = .ok (.ireturn, 1) := by decide +kernel
theorem d_Mo_start_42 : decode prog_12_method_18_code 42 = .ok (.aload_n 0, 1) := by decide +kernel
theorem d_Mo_start_43 : decode prog_12_method_18_code 43 = .ok (.invokevirtual 142, 3) := by decide +kernel
theorem d_Mo_start_46 : decode prog_12_method_18_code 46 = .ok (.ifCond .eq 44, 3) := by decide +kernel
theorem d_Mo_start_49 : decode prog_12_method_18_code 49 = .ok (.aload_n 0, 1) := by decide +kernel
theorem d_Mo_start_50 : decode prog_12_method_18_code 50 = .ok (.dup, 1) := by decide +kernel
theorem d_Mo_start_51 : decode prog_12_method_18_code 51 = .ok (.getfield 121, 3) := by decide +kernel
theorem d_Mo_start_54 : decode prog_12_method_18_code 54 = .ok (.iconst 1, 1) := by decide +kernel
theorem d_Mo_start_55 : decode prog_12_method_18_code 55 = .ok (.iadd, 1) := by decide +kernel
theorem d_Mo_start_56 : decode prog_12_method_18_code 56 = .ok (.putfield 121, 3) := by decide +kernel
theorem d_Mo_start_59 : decode prog_12_method_18_code 59 = .ok (.aload_n 0, 1) := by decide +kernel
theorem d_Mo_start_60 : decode prog_12_method_18_code 60 = .ok (.iconst 1, 1) := by decide +kernel
theorem d_Mo_start_61 : decode prog_12_method_18_code 61 = .ok (.iload_n 2, 1) := by decide +kernel
theorem d_Mo_start_62 : decode prog_12_method_18_code 62 = .ok (.bipush 97, 2) := by decide +kernel
theorem d_Mo_start_64 : decode prog_12_method_18_code 64 = .ok (.isub, 1) := by decide +kernel
theorem d_Mo_start_65 : decode prog_12_method_18_code 65 = .ok (.invokevirtual 138, 3) := by decide +kernel
theorem d_Mo_start_68 : decode prog_12_method_18_code 68 = .ok (.aload_n 0, 1) := by decide +kernel
theorem d_Mo_start_69 : decode prog_12_method_18_code 69 = .ok (.bipush 58, 2) := by decide +kernel
theorem d_Mo_start_71 : decode prog_12_method_18_code 71 = .ok (.invokevirtual 155, 3) := by decide +kernel
theorem d_Mo_start_74 : decode prog_12_method_18_code 74 = .ok (.ifCond .eq 14, 3) := by decide +kernel
theorem d_Mo_start_77 : decode prog_12_method_18_code 77 = .ok (.aload_n 0, 1) := by decide +kernel
theorem d_Mo_start_78 : decode prog_12_method_18_code 78 = .ok (.invokevirtual 165, 3) := by decide +kernel
theorem d_Mo_start_81 : decode prog_12_method_18_code 81 = .ok (.ifCond .eq 7, 3) := by decide +kernel
theorem d_Mo_start_84 : decode prog_12_method_18_code 84 = .ok (.iconst 0, 1) := by decide +kernel
theorem d_Mo_start_85 : decode prog_12_method_18_code 85 = .ok (.goto 4, 3) := by decide +kernel
theorem d_Mo_start_88 : decode prog_12_method_18_code 88 = .ok (.iconst (-1), 1) := by decide +kernel
theorem d_Mo_start_89 : decode prog_12_method_18_code 89 = .ok (.ireturn, 1) := by decide +kernel
theorem d_Mo_start_90 : decode prog_12_method_18_code 90 = .ok (.iload 4, 2) := by decide +kernel
theorem d_Mo_start_92 : decode prog_12_method_18_code 92 = .ok (.ifCond .lt 104, 3) := by decide +kernel
theorem d_Mo_start_95 : decode prog_12_method_18_code 95 = .ok (.aload_n 0, 1) := by decide +kernel
theorem d_Mo_start_96 : decode prog_12_method_18_code 96 = .ok (.dup, 1) := by decide +kernel
theorem d_Mo_start_97 : decode prog_12_method_18_code 97 = .ok (.getfield 121, 3) := by decide +kernel
theorem d_Mo_start_100 : decode prog_12_method_18_code 100 = .ok (.iconst 1, 1) := by decide +kernel
theorem d_Mo_start_101 : decode prog_12_method_18_code 101 = .ok (.iadd, 1) := by decide +kernel
theorem d_Mo_start_102 : decode prog_12_method_18_code 102 = .ok (.putfield 121, 3) := by decide +kernel
theorem d_Mo_start_105 : decode prog_12_method_18_code 105 = .ok (.iload 4, 2) := by decide +kernel
theorem d_Mo_start_107 : decode prog_12_method_18_code 107 = .ok (.iconst 4, 1) := by decide +kernel
theorem d_Mo_start_108 : decode prog_12_method_18_code 108 = .ok (.if_icmp .eq 33, 3) := by decide +kernel
theorem d_Mo_start_111 : decode prog_12_method_18_code 111 = .ok (.aload_n 0, 1) := by decide +kernel
theorem d_Mo_start_112 : decode prog_12_method_18_code 112 = .ok (.bipush 33, 2) := by decide +kernel
theorem d_Mo_start_114 : decode prog_12_method_18_code 114 = .ok (.invokevirtual 155, 3) := by decide +kernel
theorem d_Mo_start_117 : decode prog_12_method_18_code 117 = .ok (.ifCond .eq 24, 3) := by decide +kernel
theorem d_Mo_start_120 : decode prog_12_method_18_code 120 = .ok (.aload_n 0, 1) := by decide +kernel
theorem d_Mo_start_121 : decode prog_12_method_18_code 121 = .ok (.bipush 6, 2) := by decide +kernel
theorem d_Mo_start_123 : decode prog_12_method_18_code 123 = .ok (.iload 4, 2) := by decide +kernel
theorem d_Mo_start_125 : decode prog_12_method_18_code 125 = .ok (.invokevirtual 138, 3) := by decide +kernel
theorem d_Mo_start_128 : decode prog_12_method_18_code 128 = .ok (.aload_n 0, 1) := by decide +kernel
theorem d_Mo_start_129 : decode prog_12_method_18_code 129 = .ok (.invokevirtual 165, 3) := by decide +kernel
theorem d_Mo_start_132 : decode prog_12_method_18_code 132 = .ok (.ifCond .eq 7, 3) := by decide +kernel
theorem d_Mo_start_135 : decode prog_12_method_18_code 135 = .ok (.iconst 0, 1) := by decide +kernel
theorem d_Mo_start_136 : decode prog_12_method_18_code 136 = .ok (.goto 4, 3) := by decide +kernel
theorem d_Mo_start_139 : decode prog_12_method_18_code 139 = .ok (.iconst (-1), 1) := by decide +kernel
theorem d_Mo_start_140 : decode prog_12_method_18_code 140 = .ok (.ireturn, 1) := by decide +kernel
theorem d_Mo_start_141 : decode prog_12_method_18_code 141 = .ok (.iload 4, 2) := by decide +kernel
theorem d_Mo_start_143 : decode prog_12_method_18_code 143 = .ok (.iconst 5, 1) := by decide +kernel
theorem d_Mo_start_144 : decode prog_12_method_18_code 144 = .ok (.if_icmp .eq 19, 3) := by decide +kernel
theorem d_Mo_start_147 : decode prog_12_method_18_code 147 = .ok (.aload_n 0, 1) := by decide +kernel
theorem d_Mo_start_148 : decode prog_12_method_18_code 148 = .ok (.bipush 63, 2) := by decide +kernel
theorem d_Mo_start_150 : decode prog_12_method_18_code 150 = .ok (.invokevirtual 155, 3) := by decide +kernel
theorem d_Mo_start_153 : decode prog_12_method_18_code 153 = .ok (.ifCond .eq 10, 3) := by decide +kernel
theorem d_Mo_start_156 : decode prog_12_method_18_code 156 = .ok (.aload_n 0, 1) := by decide +kernel
theorem d_Mo_start_157 : decode prog_12_method_18_code 157 = .ok (.invokevirtual 142, 3) := by decide +kernel
theorem d_Mo_start_160 : decode prog_12_method_18_code 160 = .ok (.ifCond .ne 5, 3) := by decide +kernel
theorem d_Mo_start_163 : decode prog_12_method_18_code 163 = .ok (.iconst (-1), 1) := by decide +kernel
theorem d_Mo_start_164 : decode prog_12_method_18_code 164 = .ok (.ireturn, 1) := by decide +kernel
theorem d_Mo_start_165 : decode prog_12_method_18_code 165 = .ok (.aload_n 0, 1) := by decide +kernel
theorem d_Mo_start_166 : decode prog_12_method_18_code 166 = .ok (.bipush 7, 2) := by decide +kernel
theorem d_Mo_start_168 : decode prog_12_method_18_code 168 = .ok (.iload 4, 2) := by decide +kernel
theorem d_Mo_start_170 : decode prog_12_method_18_code 170 = .ok (.invokevirtual 138, 3) := by decide +kernel
theorem d_Mo_start_173 : decode prog_12_method_18_code 173 = .ok (.aload_n 0, 1) := by decide +kernel
theorem d_Mo_start_174 : decode prog_12_method_18_code 174 = .ok (.aload_n 0, 1) := by decide +kernel
theorem d_Mo_start_175 : decode prog_12_method_18_code 175 = .ok (.invokevirtual 124, 3) := by decide +kernel
theorem d_Mo_start_178 : decode prog_12_method_18_code 178 = .ok (.bipush 97, 2) := by decide +kernel
theorem d_Mo_start_180 : decode prog_12_method_18_code 180 = .ok (.isub, 1) := by decide +kernel
theorem d_Mo_start_181 : decode prog_12_method_18_code 181 = .ok (.invokevirtual 131, 3) := by decide +kernel
theorem d_Mo_start_184 : decode prog_12_method_18_code 184 = .ok (.aload_n 0, 1) := by decide +kernel
theorem d_Mo_start_185 : decode prog_12_method_18_code 185 = .ok (.dup, 1) := by decide +kernel
theorem d_Mo_start_186 : decode prog_12_method_18_code 186 = .ok (.getfield 121, 3) := by decide +kernel
theorem d_Mo_start_189 : decode prog_12_method_18_code 189 = .ok (.iconst 1, 1) := by decide +kernel
theorem d_Mo_start_190 : decode prog_12_method_18_code 190 = .ok (.iadd, 1) := by decide +kernel
theorem d_Mo_start_191 : decode prog_12_method_18_code 191 = .ok (.putfield 121, 3) := by decide +kernel
theorem d_Mo_start_194 : decode prog_12_method_18_code 194 = .ok (.iconst 0, 1) := by decide +kernel
theorem d_Mo_start_195 : decode prog_12_method_18_code 195 = .ok (.ireturn, 1) := by decide +kernel
theorem d_Mo_start_196 : decode prog_12_method_18_code 196 = .ok (.iload_n 2, 1) := by decide +kernel
theorem d_Mo_start_197 : decode prog_12_method_18_code 197 = .ok (.ifCond .eq 51, 3) := by decide +kernel
theorem d_Mo_start_200 : decode prog_12_method_18_code 200 = .ok (.iload_n 2, 1) := by decide +kernel
theorem d_Mo_start_201 : decode prog_12_method_18_code 201 = .ok (.bipush 46, 2) := by decide +kernel
theorem d_Mo_start_203 : decode prog_12_method_18_code 203 = .ok (.if_icmp .eq 47, 3) := by decide +kernel
theorem d_Mo_start_206 : decode prog_12_method_18_code 206 = .ok (.iload_n 2, 1) := by decide +kernel
theorem d_Mo_start_207 : decode prog_12_method_18_code 207 = .ok (.bipush 35, 2) := by decide +kernel
theorem d_Mo_start_209 : decode prog_12_method_18_code 209 = .ok (.if_icmp .eq 41, 3) := by decide +kernel
theorem d_Mo_start_212 : decode prog_12_method_18_code 212 = .ok (.iload_n 2, 1) := by decide +kernel
theorem d_Mo_start_213 : decode prog_12_method_18_code 213 = .ok (.bipush 64, 2) := by decide +kernel
theorem d_Mo_start_215 : decode prog_12_method_18_code 215 = .ok (.if_icmp .eq 35, 3) := by decide +kernel
theorem d_Mo_start_218 : decode prog_12_method_18_code 218 = .ok (.iload_n 2, 1) := by decide +kernel
theorem d_Mo_start_219 : decode prog_12_method_18_code 219 = .ok (.bipush 40, 2) := by decide +kernel
theorem d_Mo_start_221 : decode prog_12_method_18_code 221 = .ok (.if_icmp .eq 29, 3) := by decide +kernel
theorem d_Mo_start_224 : decode prog_12_method_18_code 224 = .ok (.iload_n 2, 1) := by decide +kernel
theorem d_Mo_start_225 : decode prog_12_method_18_code 225 = .ok (.bipush 123, 2) := by decide +kernel
theorem d_Mo_start_227 : decode prog_12_method_18_code 227 = .ok (.if_icmp .eq 23, 3) := by decide +kernel
theorem d_Mo_start_230 : decode prog_12_method_18_code 230 = .ok (.iload_n 2, 1) := by decide +kernel
theorem d_Mo_start_231 : decode prog_12_method_18_code 231 = .ok (.bipush 94, 2) := by decide +kernel
theorem d_Mo_start_233 : decode prog_12_method_18_code 233 = .ok (.if_icmp .eq 17, 3) := by decide +kernel
theorem d_Mo_start_236 : decode prog_12_method_18_code 236 = .ok (.iload_n 2, 1) := by decide +kernel
theorem d_Mo_start_237 : decode prog_12_method_18_code 237 = .ok (.bipush 63, 2) := by decide +kernel
theorem d_Mo_start_239 : decode prog_12_method_18_code 239 = .ok (.if_icmp .eq 11, 3) := by decide +kernel
theorem d_Mo_start_242 : decode prog_12_method_18_code 242 = .ok (.iload_n 2, 1) := by decide +kernel
theorem d_Mo_start_243 : decode prog_12_method_18_code 243 = .ok (.bipush 91, 2) := by decide +kernel
theorem d_Mo_start_245 : decode prog_12_method_18_code 245 = .ok (.if_icmp .eq 5, 3) := by decide +kernel
theorem d_Mo_start_248 : decode prog_12_method_18_code 248 = .ok (.iconst (-1), 1) := by decide +kernel
theorem d_Mo_start_249 : decode prog_12_method_18_code 249 = .ok (.ireturn, 1) := by decide +kernel
theorem d_Mo_start_250 : decode prog_12_method_18_code 250 = .ok (.aload_n 0, 1) := by decide +kernel
theorem d_Mo_start_251 : decode prog_12_method_18_code 251 = .ok (.dup, 1) := by decide +kernel
theorem d_Mo_start_252 : decode prog_12_method_18_code 252 = .ok (.getfield 121, 3) := by decide +kernel
theorem d_Mo_start_255 : decode prog_12_method_18_code 255 = .ok (.iconst 1, 1) := by decide +kernel
theorem d_Mo_start_256 : decode prog_12_method_18_code 256 = .ok (.iadd, 1) := by decide +kernel
theorem d_Mo_start_257 : decode prog_12_method_18_code 257 = .ok (.putfield 121, 3) := by decide +kernel
theorem d_Mo_start_260 : decode prog_12_method_18_code 260 = .ok (.iload_n 2, 1) := by decide +kernel
theorem d_Mo_start_261 : decode prog_12_method_18_code 261 = .ok (.bipush 46, 2) := by decide +kernel
theorem d_Mo_start_263 : decode prog_12_method_18_code 263 = .ok (.if_icmp .eq 9, 3) := by decide +kernel
theorem d_Mo_start_266 : decode prog_12_method_18_code 266 = .ok (.iload_n 2, 1) := by decide +kernel
theorem d_Mo_start_267 : decode prog_12_method_18_code 267 = .ok (.bipush 35, 2) := by decide +kernel
theorem d_Mo_start_269 : decode prog_12_method_18_code 269 = .ok (.if_icmp .ne 20, 3) := by decide +kernel
theorem d_Mo_start_272 : decode prog_12_method_18_code 272 = .ok (.aload_n 0, 1) := by decide +kernel
theorem d_Mo_start_273 : decode prog_12_method_18_code 273 = .ok (.iload_n 2, 1) := by decide +kernel
theorem d_Mo_start_274 : decode prog_12_method_18_code 274 = .ok (.bipush 46, 2) := by decide +kernel
theorem d_Mo_start_276 : decode prog_12_method_18_code 276 = .ok (.if_icmp .ne 7, 3) := by decide +kernel
theorem d_Mo_start_279 : decode prog_12_method_18_code 279 = .ok (.iconst 2, 1) := by decide +kernel
theorem d_Mo_start_280 : decode prog_12_method_18_code 280 = .ok (.goto 4, 3) := by decide +kernel
theorem d_Mo_start_283 : decode prog_12_method_18_code 283 = .ok (.iconst 3, 1) := by decide +kernel
theorem d_Mo_start_284 : decode prog_12_method_18_code 284 = .ok (.invokevirtual 131, 3) := by decide +kernel
theorem d_Mo_start_287 : decode prog_12_method_18_code 287 = .ok (.iconst 0, 1) := by decide +kernel
theorem d_Mo_start_288 : decode prog_12_method_18_code 288 = .ok (.ireturn, 1) := by decide +kernel
theorem d_Mo_start_289 : decode prog_12_method_18_code 289 = .ok (.iload_n 2, 1) := by decide +kernel
theorem d_Mo_start_290 : decode prog_12_method_18_code 290 = .ok (.bipush 64, 2) := by decide +kernel
theorem d_Mo_start_292 : decode prog_12_method_18_code 292 = .ok (.if_icmp .ne 22, 3) := by decide +kernel
theorem d_Mo_start_295 : decode prog_12_method_18_code 295 = .ok (.aload_n 0, 1) := by decide +kernel
theorem d_Mo_start_296 : decode prog_12_method_18_code 296 = .ok (.bipush 9, 2) := by decide +kernel
theorem d_Mo_start_298 : decode prog_12_method_18_code 298 = .ok (.invokevirtual 131, 3) := by decide +kernel
theorem d_Mo_start_301 : decode prog_12_method_18_code 301 = .ok (.aload_n 0, 1) := by decide +kernel
theorem d_Mo_start_302 : decode prog_12_method_18_code 302 = .ok (.invokevirtual 165, 3) := by decide +kernel
theorem d_Mo_start_305 : decode prog_12_method_18_code 305 = .ok (.ifCond .eq 7, 3) := by decide +kernel
theorem d_Mo_start_308 : decode prog_12_method_18_code 308 = .ok (.iconst 0, 1) := by decide +kernel
theorem d_Mo_start_309 : decode prog_12_method_18_code 309 = .ok (.goto 4, 3) := by decide +kernel
theorem d_Mo_start_312 : decode prog_12_method_18_code 312 = .ok (.iconst (-1), 1) := by decide +kernel
theorem d_Mo_start_313 : decode prog_12_method_18_code 313 = .ok (.ireturn, 1) := by decide +kernel
theorem d_Mo_start_314 : decode prog_12_method_18_code 314 = .ok (.iload_n 2, 1) := by decide +kernel
theorem d_Mo_start_315 : decode prog_12_method_18_code 315 = .ok (.bipush 40, 2) := by decide +kernel
theorem d_Mo_start_317 : decode prog_12_method_18_code 317 = .ok (.if_icmp .ne 9, 3) := by decide +kernel
theorem d_Mo_start_320 : decode prog_12_method_18_code 320 = .ok (.aload_n 0, 1) := by decide +kernel
theorem d_Mo_start_321 : decode prog_12_method_18_code 321 = .ok (.iconst 1, 1) := by decide +kernel
theorem d_Mo_start_322 : decode prog_12_method_18_code 322 = .ok (.iload_n 3, 1) := by decide +kernel
theorem d_Mo_start_323 : decode prog_12_method_18_code 323 = .ok (.invokevirtual 168, 3) := by decide +kernel
theorem d_Mo_start_326 : decode prog_12_method_18_code 326 = .ok (.iload_n 2, 1) := by decide +kernel
theorem d_Mo_start_327 : decode prog_12_method_18_code 327 = .ok (.bipush 123, 2) := by decide +kernel
theorem d_Mo_start_329 : decode prog_12_method_18_code 329 = .ok (.if_icmp .ne 35, 3) := by decide +kernel
theorem d_Mo_start_332 : decode prog_12_method_18_code 332 = .ok (.aload_n 0, 1) := by decide +kernel
theorem d_Mo_start_333 : decode prog_12_method_18_code 333 = .ok (.iconst 5, 1) := by decide +kernel
theorem d_Mo_start_334 : decode prog_12_method_18_code 334 = .ok (.iconst 0, 1) := by decide +kernel
theorem d_Mo_start_335 : decode prog_12_method_18_code 335 = .ok (.invokevirtual 138, 3) := by decide +kernel
theorem d_Mo_start_338 : decode prog_12_method_18_code 338 = .ok (.iconst 0, 1) := by decide +kernel
theorem d_Mo_start_339 : decode prog_12_method_18_code 339 = .ok (.istore 5, 2) := by decide +kernel
theorem d_Mo_start_341 : decode prog_12_method_18_code 341 = .ok (.iload 5, 2) := by decide +kernel
theorem d_Mo_start_343 : decode prog_12_method_18_code 343 = .ok (.iconst 5, 1) := by decide +kernel
theorem d_Mo_start_344 : decode prog_12_method_18_code 344 = .ok (.if_icmp .ge 14, 3) := by decide +kernel
theorem d_Mo_start_347 : decode prog_12_method_18_code 347 = .ok (.aload_n 0, 1) := by decide +kernel
theorem d_Mo_start_348 : decode prog_12_method_18_code 348 = .ok (.iconst 0, 1) := by decide +kernel
theorem d_Mo_start_349 : decode prog_12_method_18_code 349 = .ok (.invokevirtual 131, 3) := by decide +kernel
theorem d_Mo_start_352 : decode prog_12_method_18_code 352 = .ok (.iinc 5 1, 3) := by decide +kernel
theorem d_Mo_start_355 : decode prog_12_method_18_code 355 = .ok (.goto (-14), 3) := by decide +kernel
theorem d_Mo_start_358 : decode prog_12_method_18_code 358 = .ok (.aload_n 0, 1) := by decide +kernel
theorem d_Mo_start_359 : decode prog_12_method_18_code 359 = .ok (.iconst 2, 1) := by decide +kernel
theorem d_Mo_start_360 : decode prog_12_method_18_code 360 = .ok (.iload_n 3, 1) := by decide +kernel
theorem d_Mo_start_361 : decode prog_12_method_18_code 361 = .ok (.invokevirtual 168, 3) := by decide +kernel
theorem d_Mo_start_364 : decode prog_12_method_18_code 364 = .ok (.iload_n 2, 1) := by decide +kernel
theorem d_Mo_start_365 : decode prog_12_method_18_code 365 = .ok (.bipush 94, 2) := by decide +kernel
theorem d_Mo_start_367 : decode prog_12_method_18_code 367 = .ok (.if_icmp .eq 9, 3) := by decide +kernel
theorem d_Mo_start_370 : decode prog_12_method_18_code 370 = .ok (.iload_n 2, 1) := by decide +kernel
theorem d_Mo_start_371 : decode prog_12_method_18_code 371 = .ok (.bipush 63, 2) := by decide +kernel
theorem d_Mo_start_373 : decode prog_12_method_18_code 373 = .ok (.if_icmp .ne 43, 3) := by decide +kernel
theorem d_Mo_start_376 : decode prog_12_method_18_code 376 = .ok (.aload_n 0, 1) := by decide +kernel
theorem d_Mo_start_377 : decode prog_12_method_18_code 377 = .ok (.iconst 4, 1) := by decide +kernel
theorem d_Mo_start_378 : decode prog_12_method_18_code 378 = .ok (.iconst 0, 1) := by decide +kernel
theorem d_Mo_start_379 : decode prog_12_method_18_code 379 = .ok (.invokevirtual 138, 3) := by decide +kernel
theorem d_Mo_start_382 : decode prog_12_method_18_code 382 = .ok (.aload_n 0, 1) := by decide +kernel
theorem d_Mo_start_383 : decode prog_12_method_18_code 383 = .ok (.invokevirtual 165, 3) := by decide +kernel
theorem d_Mo_start_386 : decode prog_12_method_18_code 386 = .ok (.ifCond .eq 12, 3) := by decide +kernel
theorem d_Mo_start_389 : decode prog_12_method_18_code 389 = .ok (.aload_n 0, 1) := by decide +kernel
theorem d_Mo_start_390 : decode prog_12_method_18_code 390 = .ok (.bipush 44, 2) := by decide +kernel
theorem d_Mo_start_392 : decode prog_12_method_18_code 392 = .ok (.invokevirtual 155, 3) := by decide +kernel
theorem d_Mo_start_395 : decode prog_12_method_18_code 395 = .ok (.ifCond .ne 5, 3) := by decide +kernel
theorem d_Mo_start_398 : decode prog_12_method_18_code 398 = .ok (.iconst (-1), 1) := by decide +kernel
theorem d_Mo_start_399 : decode prog_12_method_18_code 399 = .ok (.ireturn, 1) := by decide +kernel
theorem d_Mo_start_400 : decode prog_12_method_18_code 400 = .ok (.aload_n 0, 1) := by decide +kernel
theorem d_Mo_start_401 : decode prog_12_method_18_code 401 = .ok (.iload_n 2, 1) := by decide +kernel
theorem d_Mo_start_402 : decode prog_12_method_18_code 402 = .ok (.bipush 94, 2) := by decide +kernel
theorem d_Mo_start_404 : decode prog_12_method_18_code 404 = .ok (.if_icmp .ne 7, 3) := by decide +kernel
theorem d_Mo_start_407 : decode prog_12_method_18_code 407 = .ok (.iconst 3, 1) := by decide +kernel
theorem d_Mo_start_408 : decode prog_12_method_18_code 408 = .ok (.goto 4, 3) := by decide +kernel
theorem d_Mo_start_411 : decode prog_12_method_18_code 411 = .ok (.iconst 4, 1) := by decide +kernel
theorem d_Mo_start_412 : decode prog_12_method_18_code 412 = .ok (.iload_n 3, 1) := by decide +kernel
theorem d_Mo_start_413 : decode prog_12_method_18_code 413 = .ok (.invokevirtual 168, 3) := by decide +kernel
theorem d_Mo_start_416 : decode prog_12_method_18_code 416 = .ok (.iload_n 2, 1) := by decide +kernel
theorem d_Mo_start_417 : decode prog_12_method_18_code 417 = .ok (.bipush 91, 2) := by decide +kernel
theorem d_Mo_start_419 : decode prog_12_method_18_code 419 = .ok (.if_icmp .ne 38, 3) := by decide +kernel
theorem d_Mo_start_422 : decode prog_12_method_18_code 422 = .ok (.aload_n 0, 1) := by decide +kernel
theorem d_Mo_start_423 : decode prog_12_method_18_code 423 = .ok (.bipush 8, 2) := by decide +kernel
theorem d_Mo_start_425 : decode prog_12_method_18_code 425 = .ok (.iconst 0, 1) := by decide +kernel
theorem d_Mo_start_426 : decode prog_12_method_18_code 426 = .ok (.invokevirtual 138, 3) := by decide +kernel
theorem d_Mo_start_429 : decode prog_12_method_18_code 429 = .ok (.iconst 0, 1) := by decide +kernel
theorem d_Mo_start_430 : decode prog_12_method_18_code 430 = .ok (.istore 5, 2) := by decide +kernel
theorem d_Mo_start_432 : decode prog_12_method_18_code 432 = .ok (.iload 5, 2) := by decide +kernel
theorem d_Mo_start_434 : decode prog_12_method_18_code 434 = .ok (.bipush 16, 2) := by decide +kernel
theorem d_Mo_start_436 : decode prog_12_method_18_code 436 = .ok (.if_icmp .ge 14, 3) := by decide +kernel
theorem d_Mo_start_439 : decode prog_12_method_18_code 439 = .ok (.aload_n 0, 1) := by decide +kernel
theorem d_Mo_start_440 : decode prog_12_method_18_code 440 = .ok (.iconst 0, 1) := by decide +kernel
theorem d_Mo_start_441 : decode prog_12_method_18_code 441 = .ok (.invokevirtual 131, 3) := by decide +kernel
theorem d_Mo_start_444 : decode prog_12_method_18_code 444 = .ok (.iinc 5 1, 3) := by decide +kernel
theorem d_Mo_start_447 : decode prog_12_method_18_code 447 = .ok (.goto (-15), 3) := by decide +kernel
theorem d_Mo_start_450 : decode prog_12_method_18_code 450 = .ok (.aload_n 0, 1) := by decide +kernel
theorem d_Mo_start_451 : decode prog_12_method_18_code 451 = .ok (.bipush 6, 2) := by decide +kernel
theorem d_Mo_start_453 : decode prog_12_method_18_code 453 = .ok (.iload_n 3, 1) := by decide +kernel
theorem d_Mo_start_454 : decode prog_12_method_18_code 454 = .ok (.invokevirtual 168, 3) := by decide +kernel
theorem d_Mo_start_457 : decode prog_12_method_18_code 457 = .ok (.iconst 1, 1) := by decide +kernel
theorem d_Mo_start_458 : decode prog_12_method_18_code 458 = .ok (.ireturn, 1) := by decide +kernel
set_option maxHeartbeats 4000000 in
set_option maxRecDepth 100000 in
theorem c_CM_load (l : Launch) (hst : l.stackTraces = false) (dC : Nat → ClassId) (dI : Nat → Nat → Nat) (ar : Nat → ClassId) (N0 : Nat) (z : Nat → Nat) (h0 rd mc va ch gi bo qu sl sk : Nat) (tx co : Nat) (sz : Nat) : vx_Met l ({ cls := "ChannelMachine", name := "load", desc := "()I" } : Jvm.MethodName) ((Jvm.Cond.code ({ cls := "ChannelMachine", name := "load", desc := "()I" } : Jvm.MethodName) prog_1_method_4_code (2 : Nat) (Option.some Jvm.ClassFile.FieldType.int)) :: x_T) ({ frames := 6, cells := 1, slots := 6, locals := 91 }) (x_Pc (dC, dI) ar N0 z [(h0, .inr (5, [.ref rd, .ref mc, .int (-1)])), (rd, .inr (3, [.ref tx, .ref co, .int 0, .int 0, .int 0, .int 0, .int 0, .int 0, .null]))] sz [.ref h0]) (va_Qi (fun (r : Int32) (u : Unit) => False) (fun u t => True) (va_A [(h0, .inr (5, [.ref rd, .ref mc, .int (-1)])), (rd, .inr (3, [.ref tx, .ref co, .int 0, .int 0, .int 0, .int 0, .int 0, .int 0, .null]))] sz)) (vx_X (fun (_ : Unit) => True) (fun E _ t => E = "java/lang/IllegalArgumentException") (va_A [(h0, .inr (5, [.ref rd, .ref mc, .int (-1)])), (rd, .inr (3, [.ref tx, .ref co, .int 0, .int 0, .int 0, .int 0, .int 0, .int 0, .null]))] sz)) 1 6 (va_A [(h0, .inr (5, [.ref rd, .ref mc, .int (-1)])), (rd, .inr (3, [.ref tx, .ref co, .int 0, .int 0, .int 0, .int 0, .int 0, .int 0, .null]))] sz) := by
  refine vx_ofW (cc := prog_1_method_4_code) (maxL := 2) (ret := (some .int)) (by decide) rfl ?_
  intro p e s m args below meth c s₁ B hml htb hv
  obtain ⟨rfl, hsz, hN0, hP, hU, hZ, hD0⟩ := hv
  have hK := hU.1
  have hx := B.exec
  have hb := B.bytes
  have hr := B.returns
  have hts : ∀ w ∈ x_T, w.before ([.ref h0] : List Value).toArray s = true := fun w h => atoms_spec (ws := (Jvm.Cond.code ({ cls := "ChannelMachine", name := "load", desc := "()I" } : Jvm.MethodName) prog_1_method_4_code (2 : Nat) (Option.some Jvm.ClassFile.FieldType.int)) :: x_T) B.pre w (List.mem_cons_of_mem _ h)
  have hown : s.vm.findClass "ChannelMachine" = some m.cls := findClass_of_methodNamed B.named
  have hlocks := B.notSynchronized
  subst hsz
  have hD := hD0.self (sz := s.heap.size)
  have hAN := x_AN hD0 hN0
  generalize hAe : va_A [(h0, .inr (5, [.ref rd, .ref mc, .int (-1)])), (rd, .inr (3, [.ref tx, .ref co, .int 0, .int 0, .int 0, .int 0, .int 0, .int 0, .null]))] s.heap.size = A at hD hAN ⊢
  have hA : ∀ q : Nat, s.heap.size ≤ q → A q := fun q h => by rw [← hAe]; exact Or.inr h
  have hS : va_S A s.heap s.heap [] := va_S.rf
  have hP : va_P (dC, dI) x_cl [(h0, .inr (5, [.ref rd, .ref mc, .int (-1)])), (rd, .inr (3, [.ref tx, .ref co, .int 0, .int 0, .int 0, .int 0, .int 0, .int 0, .null]))] s.heap := hP
  have hl := lv_entry ([.ref h0]) (n := 2) (Nat.le_of_ble_eq_true rfl)
  rw [lg_entry_eq]
  generalize (lg_sl ([.ref h0]) ++ List.replicate (2 - (lg_sl ([.ref h0])).length) Slot.unset).toArray = ls at hl ⊢
  have hl : lv_has ls 2 [(0, .ref h0)] := hl
  have hH0 : s.heap.size ≤ s.heap.size := Nat.le_refl _
  refine lv_aload_n hx hb d_CM_load_0 rfl (lv_at hl 0 rfl) ?_
  refine va_get (D := (dC, dI)) (ci := 5) (v := .ref rd) (C := "ChannelMachine") (T := F_CM) (N := 3) hx hb hts i_CM hown hK hP 0 rfl rfl 0 (by decide) (hts _ k_194) (fun _ h9 => h9) rfl d_CM_load_1 ?_
  have hPc := hP.sub (ws' := [(rd, .inr (3, [.ref tx, .ref co, .int 0, .int 0, .int 0, .int 0, .int 0, .int 0, .null]))]) [1] rfl
  have hDc := hD.sub (ws' := [(rd, .inr (3, [.ref tx, .ref co, .int 0, .int 0, .int 0, .int 0, .int 0, .int 0, .null]))]) [1] (by decide) rfl
  have hFc := va_free (wc := [(rd, .inr (3, [.ref tx, .ref co, .int 0, .int 0, .int 0, .int 0, .int 0, .int 0, .null]))]) hD hS hA [1] rfl
  refine va_callv (va_runV (As := []) (rest := []) ⟨hx, hb, hml, hown, hts⟩ (c_Reader_start l dC dI ar N0 z rd tx co s.heap.size) (cwV 0 hts (x_goodV k_326 k_327 k_328 k_2 k_329) rfl rfl rfl (by decide +kernel) ⟨Nat.le_of_ble_eq_true rfl, Nat.le_of_ble_eq_true rfl⟩) ⟨x_blind, va_recv hK hPc (ci := 3) (q0 := 0) rfl rfl, fun U hU9 hW => x_pre hU9 hW hPc hDc hU hZ hS hAN hN0⟩ rfl rfl hl.1 rfl (lv_room (Nat.le_of_ble_eq_true rfl)) d_CM_load_4 ⟨Nat.le_of_ble_eq_true rfl, Nat.le_of_ble_eq_true rfl⟩) hS (fun q _ h => hFc q h) hFc (fun u1 t H1 locs ht hvm hw hB hz1 hk1 hS => ?_)
  obtain ⟨hP1, hD1⟩ := hB
  rw [ht] at hP1
  obtain ⟨hP, hD⟩ := va_join (wr := [(h0, .inr (5, [.ref rd, .ref mc, .int (-1)]))]) (w1 := [(rd, .inr (3, [.ref tx, .ref co, .int 0, .int 0, .int 0, .int 0, .int 0, .int 0, .null]))]) hP hD [1] [0] rfl rfl (by decide) (by decide) hk1 hFc hP1 hD1
  generalize H1 = H at hP hS ⊢
  have hP : va_P (dC, dI) x_cl [(h0, .inr (5, [.ref rd, .ref mc, .int (-1)])), (rd, .inr (3, [.ref tx, .ref co, .int 0, .int 0, .int 0, .int 0, .int 0, .int 0, .null]))] H := hP
  have hD : va_D A [(h0, .inr (5, [.ref rd, .ref mc, .int (-1)])), (rd, .inr (3, [.ref tx, .ref co, .int 0, .int 0, .int 0, .int 0, .int 0, .int 0, .null]))] := hD
  refine W.widen (k := 0) (n := 0) (Nat.le_of_ble_eq_true rfl) (Nat.le_of_ble_eq_true rfl) ?_
  refine lv_aload_n hx hb d_CM_load_7 rfl (lv_at hl 0 rfl) ?_
  refine va_get (D := (dC, dI)) (ci := 5) (v := .ref rd) (C := "ChannelMachine") (T := F_CM) (N := 3) hx hb hts i_CM hown hK hP 0 rfl rfl 0 (by decide) (hts _ k_194) (fun _ h9 => h9) rfl d_CM_load_8 ?_
  refine lv_null hx hb d_CM_load_11 ?_
  refine lv_iconst (v := 1) hx hb d_CM_load_12 (by decide) ?_
  refine lv_iconst (v := 0) hx hb d_CM_load_13 (by decide) ?_
  have hPc := hP.sub (ws' := [(rd, .inr (3, [.ref tx, .ref co, .int 0, .int 0, .int 0, .int 0, .int 0, .int 0, .null]))]) [1] rfl
  have hDc := hD.sub (ws' := [(rd, .inr (3, [.ref tx, .ref co, .int 0, .int 0, .int 0, .int 0, .int 0, .int 0, .null]))]) [1] (by decide) rfl
  have hFc := va_free (wc := [(rd, .inr (3, [.ref tx, .ref co, .int 0, .int 0, .int 0, .int 0, .int 0, .int 0, .null]))]) hD hS hA [1] rfl
  refine va_calli (va_runVN (As := [.null, .int 1, .int 0]) (rest := []) ⟨hx, hb, hml, hown, hts⟩ (c_Reader_process l dC dI ar N0 z rd tx co H.size) ⟨va_cnB 3 hts (x_good k_333) rfl rfl rfl (hU.2.1 _ kn_330) (hts _ k_2) (by decide +kernel) ⟨Nat.le_of_ble_eq_true rfl, Nat.le_of_ble_eq_true rfl⟩, hts _ k_332, hts _ kp_1⟩ ⟨x_blind, va_recv hK hPc (ci := 3) (q0 := 0) rfl rfl, fun U hU9 hW => x_pre hU9 hW hPc hDc hU hZ hS hAN hN0⟩ rfl rfl hl.1 rfl (lv_room (Nat.le_of_ble_eq_true rfl)) d_CM_load_14 ⟨Nat.le_of_ble_eq_true rfl, Nat.le_of_ble_eq_true rfl⟩) hS (fun q _ h => hFc q h) hFc (fun r2 u3 t H1 locs ht hvm hw hB hz1 hk1 hS => ?_)
  obtain ⟨hP1, hD1⟩ := hB
  rw [ht] at hP1
  obtain ⟨hP, hD⟩ := va_join (wr := [(h0, .inr (5, [.ref rd, .ref mc, .int (-1)]))]) (w1 := [(rd, .inr (3, [.ref tx, .ref co, .int 0, .int 0, .int 0, .int 0, .int 0, .int 0, .null]))]) hP hD [1] [0] rfl rfl (by decide) (by decide) hk1 hFc hP1 hD1
  generalize H1 = H at hP hS ⊢
  have hP : va_P (dC, dI) x_cl [(h0, .inr (5, [.ref rd, .ref mc, .int (-1)])), (rd, .inr (3, [.ref tx, .ref co, .int 0, .int 0, .int 0, .int 0, .int 0, .int 0, .null]))] H := hP
  have hD : va_D A [(h0, .inr (5, [.ref rd, .ref mc, .int (-1)])), (rd, .inr (3, [.ref tx, .ref co, .int 0, .int 0, .int 0, .int 0, .int 0, .int 0, .null]))] := hD
  refine W.widen (k := 0) (n := 0) (Nat.le_of_ble_eq_true rfl) (Nat.le_of_ble_eq_true rfl) ?_
  obtain rfl := hw
  refine lv_if_eq (tgt := 34) hx hb d_CM_load_17 (by decide) (fun _ => ?_) (fun c4 => absurd (by decide) c4)
  refine lv_iconst (v := 0) hx hb d_CM_load_34 (by decide) ?_
  refine lv_istore_n (lv' := [(1, .int 0), (0, .ref h0)]) hx hb d_CM_load_35 rfl hl (by decide) rfl (fun ls hl => ?_)
  refine lv_aload_n hx hb d_CM_load_36 rfl (lv_at hl 1 rfl) ?_
  refine va_get (D := (dC, dI)) (ci := 5) (v := .ref rd) (C := "ChannelMachine") (T := F_CM) (N := 3) hx hb hts i_CM hown hK hP 0 rfl rfl 0 (by decide) (hts _ k_194) (fun _ h9 => h9) rfl d_CM_load_37 ?_
  refine lv_iconst (v := 0) hx hb d_CM_load_40 (by decide) ?_
  refine va_putN (D := (dC, dI)) (ci := 3) (v := .int 0) (ty := .int) (C := "ChannelMachine$Reader") (T := F_Reader) (N := 9) hx hb hts i_Reader t_Reader t_Reader_ok n_Reader hown hK hP hD hS 1 rfl rfl 2 (by decide) (hU.2.1 _ kn_46) (fun _ h9 => h9) rfl (by decide +kernel) rfl rfl (Nat.le_of_ble_eq_true rfl) d_CM_load_41 (fun H locs hP hD hS => ?_)
  have hP : va_P (dC, dI) x_cl [(h0, .inr (5, [.ref rd, .ref mc, .int (-1)])), (rd, .inr (3, [.ref tx, .ref co, .int 0, .int 0, .int 0, .int 0, .int 0, .int 0, .null]))] H := hP
  have hD : va_D A [(h0, .inr (5, [.ref rd, .ref mc, .int (-1)])), (rd, .inr (3, [.ref tx, .ref co, .int 0, .int 0, .int 0, .int 0, .int 0, .int 0, .null]))] := hD
  refine lv_iload_n hx hb d_CM_load_44 rfl (lv_at hl 0 rfl) ?_
  refine lv_if_ne (tgt := 69) hx hb d_CM_load_45 (by decide) (fun c5 => absurd rfl c5) (fun _ => ?_)
  refine lv_aload_n hx hb d_CM_load_48 rfl (lv_at hl 1 rfl) ?_
  refine lv_aload_n hx hb d_CM_load_49 rfl (lv_at hl 1 rfl) ?_
  refine va_get (D := (dC, dI)) (ci := 5) (v := .ref rd) (C := "ChannelMachine") (T := F_CM) (N := 3) hx hb hts i_CM hown hK hP 0 rfl rfl 0 (by decide) (hts _ k_194) (fun _ h9 => h9) rfl d_CM_load_50 ?_
  refine va_getN (D := (dC, dI)) (ci := 3) (v := .int 0) (C := "ChannelMachine$Reader") (T := F_Reader) (N := 9) hx hb hts i_Reader hown hK hP 1 rfl rfl 6 (by decide) (hU.2.1 _ kn_51) (fun _ h9 => h9) rfl d_CM_load_53 ?_
  refine va_put (D := (dC, dI)) (ci := 5) (v := .int 0) (ty := .int) (C := "ChannelMachine") (T := F_CM) (N := 3) hx hb hts i_CM t_CM t_CM_ok n_CM hown hK hP hD hS 0 rfl rfl 2 (by decide) (hts _ k_196) (fun _ h9 => h9) rfl (by decide +kernel) rfl rfl (Nat.le_of_ble_eq_true rfl) d_CM_load_56 (fun H locs hP hD hS => ?_)
  have hP : va_P (dC, dI) x_cl [(h0, .inr (5, [.ref rd, .ref mc, .int 0])), (rd, .inr (3, [.ref tx, .ref co, .int 0, .int 0, .int 0, .int 0, .int 0, .int 0, .null]))] H := hP
  have hD : va_D A [(h0, .inr (5, [.ref rd, .ref mc, .int 0])), (rd, .inr (3, [.ref tx, .ref co, .int 0, .int 0, .int 0, .int 0, .int 0, .int 0, .null]))] := hD
  exact x_throw (A := A) hx hb hst (own := "ChannelMachine") (cls := "java/lang/IllegalArgumentException") (text := "not a program") (ik := 31) (is := 62) (ic := 35) hown k_230 k_13 (by decide) x_tChannelMachine_35 (by decide +kernel) rfl hts hU hZ hAN hS (by rw [hml]; exact hl.1) d_CM_load_59 d_CM_load_62 d_CM_load_63 d_CM_load_65 d_CM_load_68 htb (Nat.le_of_ble_eq_true rfl) (Nat.le_of_ble_eq_true rfl) (Nat.le_of_ble_eq_true rfl) (Nat.le_of_ble_eq_true rfl) hlocks (fun t h1 h2 h3 h4 => ⟨(), trivial, rfl, h4⟩) hS.2.2 (Nat.le_of_ble_eq_true rfl) (Nat.le_of_ble_eq_true rfl)
set_option maxHeartbeats 4000000 in
set_option maxRecDepth 100000 in
theorem c_La_load (l : Launch) (hst : l.stackTraces = false) (dC : Nat → ClassId) (dI : Nat → Nat → Nat) (ar : Nat → ClassId) (N0 : Nat) (z : Nat → Nat) (ot : Nat) (h0 rd mc va ch gi bo qu sl sk : Nat) (tx co : Nat) (sz : Nat) : Met l ({ cls := "ChannelMachineLaw", name := "load", desc := "(LChannelMachine;[J)I" } : Jvm.MethodName) ((Jvm.Cond.codeWith ({ cls := "ChannelMachineLaw", name := "load", desc := "(LChannelMachine;[J)I" } : Jvm.MethodName) method_4_code (3 : Nat) (Option.some Jvm.ClassFile.FieldType.int) [((0 : Nat), (8 : Nat), (11 : Nat), (13 : Nat))]) :: x_T) ({ frames := 7, cells := 1, slots := 6, locals := 112 }) (x_Pc (dC, dI) ar N0 z [(ot, .inl (ar 2, 1, .inr (.inl (fun _ => 0)))), (h0, .inr (5, [.ref rd, .ref mc, .int (-1)])), (rd, .inr (3, [.ref tx, .ref co, .int 0, .int 0, .int 0, .int 0, .int 0, .int 0, .null]))] sz [.ref h0, .ref ot]) (va_Qi (fun (r : Int32) (u : Nat → Int64) => r = 1) (fun u t => va_P (dC, dI) x_cl [(ot, .inl (ar 2, 1, .inr (.inl u)))] t.heap ∧ va_D (va_A [(ot, .inl (ar 2, 1, .inr (.inl (fun _ => 0)))), (h0, .inr (5, [.ref rd, .ref mc, .int (-1)])), (rd, .inr (3, [.ref tx, .ref co, .int 0, .int 0, .int 0, .int 0, .int 0, .int 0, .null]))] sz) [(ot, .inl (ar 2, 1, .inr (.inl u)))]) (va_A [(ot, .inl (ar 2, 1, .inr (.inl (fun _ => 0)))), (h0, .inr (5, [.ref rd, .ref mc, .int (-1)])), (rd, .inr (3, [.ref tx, .ref co, .int 0, .int 0, .int 0, .int 0, .int 0, .int 0, .null]))] sz)) 1 6 (va_A [(ot, .inl (ar 2, 1, .inr (.inl (fun _ => 0)))), (h0, .inr (5, [.ref rd, .ref mc, .int (-1)])), (rd, .inr (3, [.ref tx, .ref co, .int 0, .int 0, .int 0, .int 0, .int 0, .int 0, .null]))] sz) := by
  refine va_MetW (cc := method_4_code) (maxL := 3) (ret := (some .int)) (by decide) rfl ?_
  intro p e s m args below meth c s₁ B hml hv
  obtain ⟨rfl, hsz, hN0, hP, hU, hZ, hD0⟩ := hv
  have hK := hU.1
  have hx := B.exec
  have hb := B.bytes
  have hr := B.returns
  have hts : ∀ w ∈ x_T, w.before ([.ref h0, .ref ot] : List Value).toArray s = true := fun w h => atoms_spec (ws := (Jvm.Cond.codeWith ({ cls := "ChannelMachineLaw", name := "load", desc := "(LChannelMachine;[J)I" } : Jvm.MethodName) method_4_code (3 : Nat) (Option.some Jvm.ClassFile.FieldType.int) [((0 : Nat), (8 : Nat), (11 : Nat), (13 : Nat))]) :: x_T) B.pre w (List.mem_cons_of_mem _ h)
  have hown : s.vm.findClass "ChannelMachineLaw" = some m.cls := findClass_of_methodNamed B.named
  have hlocks := B.notSynchronized
  subst hsz
  have hD := hD0.self (sz := s.heap.size)
  have hAN := x_AN hD0 hN0
  generalize hAe : va_A [(ot, .inl (ar 2, 1, .inr (.inl (fun _ => 0)))), (h0, .inr (5, [.ref rd, .ref mc, .int (-1)])), (rd, .inr (3, [.ref tx, .ref co, .int 0, .int 0, .int 0, .int 0, .int 0, .int 0, .null]))] s.heap.size = A at hD hAN ⊢
  have hA : ∀ q : Nat, s.heap.size ≤ q → A q := fun q h => by rw [← hAe]; exact Or.inr h
  have hS : va_S A s.heap s.heap [] := va_S.rf
  have hP : va_P (dC, dI) x_cl [(ot, .inl (ar 2, 1, .inr (.inl (fun _ => 0)))), (h0, .inr (5, [.ref rd, .ref mc, .int (-1)])), (rd, .inr (3, [.ref tx, .ref co, .int 0, .int 0, .int 0, .int 0, .int 0, .int 0, .null]))] s.heap := hP
  have hl := lv_entry ([.ref h0, .ref ot]) (n := 3) (Nat.le_of_ble_eq_true rfl)
  rw [lg_entry_eq]
  generalize (lg_sl ([.ref h0, .ref ot]) ++ List.replicate (3 - (lg_sl ([.ref h0, .ref ot])).length) Slot.unset).toArray = ls at hl ⊢
  have hl : lv_has ls 3 [(0, .ref h0), (1, .ref ot)] := hl
  have hH0 : s.heap.size ≤ s.heap.size := Nat.le_refl _
  have htab := vx_table (x := ({ cls := "ChannelMachineLaw", name := "load", desc := "(LChannelMachine;[J)I" } : Jvm.MethodName)) B (hts _ k_321)
  refine lv_aload_n hx hb d_La_load_0 rfl (lv_at hl 1 rfl) ?_
  refine lv_iconst (v := 0) hx hb d_La_load_1 (by decide) ?_
  refine lv_aload_n hx hb d_La_load_2 rfl (lv_at hl 0 rfl) ?_
  have hPc := hP.sub (ws' := [(h0, .inr (5, [.ref rd, .ref mc, .int (-1)])), (rd, .inr (3, [.ref tx, .ref co, .int 0, .int 0, .int 0, .int 0, .int 0, .int 0, .null]))]) [1, 2] rfl
  have hDc := hD.sub (ws' := [(h0, .inr (5, [.ref rd, .ref mc, .int (-1)])), (rd, .inr (3, [.ref tx, .ref co, .int 0, .int 0, .int 0, .int 0, .int 0, .int 0, .null]))]) [1, 2] (by decide) rfl
  have hFc := va_free (wc := [(h0, .inr (5, [.ref rd, .ref mc, .int (-1)])), (rd, .inr (3, [.ref tx, .ref co, .int 0, .int 0, .int 0, .int 0, .int 0, .int 0, .null]))]) hD hS hA [1, 2] rfl
  refine vx_calli (vx_runV (As := []) (rest := [.int 0, .ref ot]) ⟨hx, hb, hml, hown, hts⟩ (c_CM_load l hst dC dI ar N0 z h0 rd mc va ch gi bo qu sl sk tx co s.heap.size) (cwV 0 hts (x_goodV k_322 k_323 k_324 k_1 k_325) rfl rfl rfl (by decide +kernel) ⟨Nat.le_of_ble_eq_true rfl, Nat.le_of_ble_eq_true rfl⟩) ⟨x_blind, va_recv hK hPc (ci := 5) (q0 := 0) rfl rfl, fun U hU9 hW => x_pre hU9 hW hPc hDc hU hZ hS hAN hN0⟩ rfl rfl hl.1 rfl (lv_room (Nat.le_of_ble_eq_true rfl)) d_La_load_3 ⟨Nat.le_of_ble_eq_true rfl, Nat.le_of_ble_eq_true rfl⟩) hS (fun q _ h => hFc q h) hFc (fun q h1 h2 => hFc q h2) (fun E ce q9 u t H1 locs ht hvm hpx hbx hz1 hk1 hS hce hcv hcl => ?_) (fun r1 u2 t H1 locs ht hvm hw hB hz1 hk1 hS => ?_)
  · have hP1 : va_P (dC, dI) x_cl [] H1 := fun k q h => by simp at h
    have hD1 : va_D (va_A [(h0, .inr (5, [.ref rd, .ref mc, .int (-1)])), (rd, .inr (3, [.ref tx, .ref co, .int 0, .int 0, .int 0, .int 0, .int 0, .int 0, .null]))] s.heap.size) [] := ⟨fun i j p q h => by simp at h, fun k q h => by simp at h⟩
    obtain ⟨hP, hD⟩ := va_join (wr := [(ot, .inl (ar 2, 1, .inr (.inl (fun _ => 0))))]) (w1 := []) hP hD [1, 2] [0] rfl rfl (by decide) (by decide) hk1 hFc hP1 hD1
    generalize H1 = H at hP hS hce ⊢
    have hP : va_P (dC, dI) x_cl [(ot, .inl (ar 2, 1, .inr (.inl (fun _ => 0))))] H := hP
    have hD : va_D A [(ot, .inl (ar 2, 1, .inr (.inl (fun _ => 0))))] := hD
    refine vx_widen (k := 1) (n := 6) (Nat.le_of_ble_eq_true rfl) (Nat.le_of_ble_eq_true rfl) ?_
    obtain rfl := hbx
    refine vx_catch hown [] ⟨0, 8, 11, 13⟩ [] htab (fun z h => by cases h) (by decide) (by decide) (hts _ k_221) (va_Nw.use rfl (hU.2.1 _ kn_232)) hce hcv hcl ?_
    refine lv_astore_n (lv' := [(2, .ref q9), (0, .ref h0), (1, .ref ot)]) hx hb d_La_load_11 rfl hl (by decide) rfl (fun ls hl => ?_)
    refine lv_iconst (v := 1) hx hb d_La_load_12 (by decide) ?_
    refine W.widen (k := 1) (n := 6) (Nat.le_of_ble_eq_true rfl) (Nat.le_of_ble_eq_true rfl) ?_
    exact W.iret (v := 1) hx hb hr (fun t ht hW => ⟨⟨1, (fun _ => 0), rfl, rfl, ⟨by rw [ht]; exact hP.sub (ws' := [(ot, .inl (ar 2, 1, .inr (.inl (fun _ => 0))))]) [0] rfl, hD.sub (ws' := [(ot, .inl (ar 2, 1, .inr (.inl (fun _ => 0))))]) [0] (by decide) rfl⟩⟩, hS.F ht⟩) hS.2.2 d_La_load_13
  · exact hw.elim
set_option maxHeartbeats 4000000 in
set_option maxRecDepth 100000 in
theorem c_Mo_look (l : Launch) (dC : Nat → ClassId) (dI : Nat → Nat → Nat) (ar : Nat → ClassId) (N0 : Nat) (z : Nat → Nat) (h0 : Nat) (fs : List Value) (sz : Nat) (g_pos : fs[6]? = some (.int 0)) (g_size : fs[4]? = some (.int 0)) : Met l ({ cls := "ChannelMachineModel", name := "look", desc := "()I" } : Jvm.MethodName) ((Jvm.Cond.code ({ cls := "ChannelMachineModel", name := "look", desc := "()I" } : Jvm.MethodName) prog_12_method_7_code (1 : Nat) (Option.some Jvm.ClassFile.FieldType.int)) :: x_T) ({ frames := 0, cells := 0, slots := 0, locals := 0 }) (x_Pc (dC, dI) ar N0 z [(h0, .inr (6, fs))] sz [.ref h0]) (va_Qi (fun (r : Int32) (u : Unit) => r = 0) (fun u t => va_P (dC, dI) x_cl [(h0, .inr (6, fs))] t.heap ∧ va_D (va_A [(h0, .inr (6, fs))] sz) [(h0, .inr (6, fs))]) (va_A [(h0, .inr (6, fs))] sz)) 0 0 (va_A [(h0, .inr (6, fs))] sz) := by
  refine Met.ofW (cc := prog_12_method_7_code) (maxL := 1) (ret := (some .int)) (by decide) rfl ?_
  intro p e s m args below meth c s₁ B hml hv
  obtain ⟨rfl, hsz, hN0, hP, hU, hZ, hD0⟩ := hv
  have hK := hU.1
  have hx := B.exec
  have hb := B.bytes
  have hr := B.returns
  have hts : ∀ w ∈ x_T, w.before ([.ref h0] : List Value).toArray s = true := fun w h => atoms_spec (ws := (Jvm.Cond.code ({ cls := "ChannelMachineModel", name := "look", desc := "()I" } : Jvm.MethodName) prog_12_method_7_code (1 : Nat) (Option.some Jvm.ClassFile.FieldType.int)) :: x_T) B.pre w (List.mem_cons_of_mem _ h)
  have hown : s.vm.findClass "ChannelMachineModel" = some m.cls := findClass_of_methodNamed B.named
  have hlocks := B.notSynchronized
  subst hsz
  have hD := hD0.self (sz := s.heap.size)
  have hAN := x_AN hD0 hN0
  generalize hAe : va_A [(h0, .inr (6, fs))] s.heap.size = A at hD hAN ⊢
  have hA : ∀ q : Nat, s.heap.size ≤ q → A q := fun q h => by rw [← hAe]; exact Or.inr h
  have hS : va_S A s.heap s.heap [] := va_S.rf
  have hP : va_P (dC, dI) x_cl [(h0, .inr (6, fs))] s.heap := hP
  have hl := lv_entry ([.ref h0]) (n := 1) (Nat.le_of_ble_eq_true rfl)
  rw [lg_entry_eq]
  generalize (lg_sl ([.ref h0]) ++ List.replicate (1 - (lg_sl ([.ref h0])).length) Slot.unset).toArray = ls at hl ⊢
  have hl : lv_has ls 1 [(0, .ref h0)] := hl
  have hH0 : s.heap.size ≤ s.heap.size := Nat.le_refl _
  refine lv_aload_n hx hb d_Mo_look_0 rfl (lv_at hl 0 rfl) ?_
  refine va_get (D := (dC, dI)) (ci := 6) (v := .int 0) (C := "ChannelMachineModel") (T := F_Mo) (N := 45) hx hb hts i_Mo hown hK hP 0 rfl rfl 6 (by decide) (hts _ k_973) (fun _ h9 => h9) g_pos d_Mo_look_1 ?_
  refine lv_aload_n hx hb d_Mo_look_4 rfl (lv_at hl 0 rfl) ?_
  refine va_get (D := (dC, dI)) (ci := 6) (v := .int 0) (C := "ChannelMachineModel") (T := F_Mo) (N := 45) hx hb hts i_Mo hown hK hP 0 rfl rfl 4 (by decide) (hts _ k_971) (fun _ h9 => h9) g_size d_Mo_look_5 ?_
  refine lv_icmp_ge (tgt := 23) hx hb d_Mo_look_8 (by decide) (fun _ => ?_) (fun c1 => absurd (by decide) c1)
  refine lv_iconst (v := 0) hx hb d_Mo_look_23 (by decide) ?_
  refine W.widen (k := 0) (n := 0) (Nat.le_of_ble_eq_true rfl) (Nat.le_of_ble_eq_true rfl) ?_
  exact W.iret (v := 0) hx hb hr (fun t ht hW => ⟨⟨0, (), rfl, rfl, ⟨by rw [ht]; exact hP, hD⟩⟩, hS.F ht⟩) hS.2.2 d_Mo_look_24
set_option maxHeartbeats 4000000 in
set_option maxRecDepth 100000 in
theorem c_Mo_channelOf (l : Launch) (dC : Nat → ClassId) (dI : Nat → Nat → Nat) (ar : Nat → ClassId) (N0 : Nat) (z : Nat → Nat)  (sz : Nat) : Met l ({ cls := "ChannelMachineModel", name := "channelOf", desc := "(I)I" } : Jvm.MethodName) ((Jvm.Cond.code ({ cls := "ChannelMachineModel", name := "channelOf", desc := "(I)I" } : Jvm.MethodName) prog_12_method_17_code (1 : Nat) (Option.some Jvm.ClassFile.FieldType.int)) :: x_T) ({ frames := 1, cells := 0, slots := 0, locals := 22 }) (x_Pc (dC, dI) ar N0 z [] sz [.int 0]) (va_Qi (fun (r : Int32) (u : Unit) => r = -1) (fun u t => va_P (dC, dI) x_cl [] t.heap ∧ va_D (va_A [] sz) []) (va_A [] sz)) 0 0 (va_A [] sz) := by
  refine Met.ofW (cc := prog_12_method_17_code) (maxL := 1) (ret := (some .int)) (by decide) rfl ?_
  intro p e s m args below meth c s₁ B hml hv
  obtain ⟨rfl, hsz, hN0, hP, hU, hZ, hD0⟩ := hv
  have hK := hU.1
  have hx := B.exec
  have hb := B.bytes
  have hr := B.returns
  have hts : ∀ w ∈ x_T, w.before ([.int 0] : List Value).toArray s = true := fun w h => atoms_spec (ws := (Jvm.Cond.code ({ cls := "ChannelMachineModel", name := "channelOf", desc := "(I)I" } : Jvm.MethodName) prog_12_method_17_code (1 : Nat) (Option.some Jvm.ClassFile.FieldType.int)) :: x_T) B.pre w (List.mem_cons_of_mem _ h)
  have hown : s.vm.findClass "ChannelMachineModel" = some m.cls := findClass_of_methodNamed B.named
  have hlocks := B.notSynchronized
  subst hsz
  have hD := hD0.self (sz := s.heap.size)
  have hAN := x_AN hD0 hN0
  generalize hAe : va_A [] s.heap.size = A at hD hAN ⊢
  have hA : ∀ q : Nat, s.heap.size ≤ q → A q := fun q h => by rw [← hAe]; exact Or.inr h
  have hS : va_S A s.heap s.heap [] := va_S.rf
  have hP : va_P (dC, dI) x_cl [] s.heap := hP
  have hl := lv_entry ([.int 0]) (n := 1) (Nat.le_of_ble_eq_true rfl)
  rw [lg_entry_eq]
  generalize (lg_sl ([.int 0]) ++ List.replicate (1 - (lg_sl ([.int 0])).length) Slot.unset).toArray = ls at hl ⊢
  have hl : lv_has ls 1 [(0, .int 0)] := hl
  have hH0 : s.heap.size ≤ s.heap.size := Nat.le_refl _
  refine lv_iload_n hx hb d_Mo_channelOf_0 rfl (lv_at hl 0 rfl) ?_
  refine lv_bipush (v := 73) hx hb d_Mo_channelOf_1 (by decide) ?_
  refine lv_icmp_ne (tgt := 10) hx hb d_Mo_channelOf_3 (by decide) (fun _ => ?_) (fun c1 => absurd c1 (by decide))
  refine lv_iload_n hx hb d_Mo_channelOf_10 rfl (lv_at hl 0 rfl) ?_
  refine lv_bipush (v := 79) hx hb d_Mo_channelOf_11 (by decide) ?_
  refine lv_icmp_ne (tgt := 20) hx hb d_Mo_channelOf_13 (by decide) (fun _ => ?_) (fun c2 => absurd c2 (by decide))
  refine lv_iload_n hx hb d_Mo_channelOf_20 rfl (lv_at hl 0 rfl) ?_
  refine lv_bipush (v := 65) hx hb d_Mo_channelOf_21 (by decide) ?_
  refine lv_bipush (v := 68) hx hb d_Mo_channelOf_23 (by decide) ?_
  have hPc := hP.sub (ws' := []) [] rfl
  have hDc := hD.sub (ws' := []) [] (by decide) rfl
  have hFc := va_free (wc := []) hD hS hA [] rfl
  refine va_calli (va_runS (As := [.int 0, .int 65, .int 68]) (rest := []) ⟨hx, hb, hml, hown, hts⟩ (c_Mo_in l dC dI ar N0 z 0 65 68 s.heap.size) (cwS 3 hts (x_goodS k_1113 k_1114 k_9 k_1115) rfl rfl rfl (by decide +kernel) ⟨Nat.le_of_ble_eq_true rfl, Nat.le_of_ble_eq_true rfl⟩) ⟨x_blind, fun U hU9 hW => x_pre hU9 hW hPc hDc hU hZ hS hAN hN0⟩ rfl rfl hl.1 rfl (lv_room (Nat.le_of_ble_eq_true rfl)) d_Mo_channelOf_25 ⟨Nat.le_of_ble_eq_true rfl, Nat.le_of_ble_eq_true rfl⟩) hS (fun q _ h => hFc q h) hFc (fun r3 u4 t H1 locs ht hvm hw hB hz1 hk1 hS => ?_)
  obtain ⟨hP1, hD1⟩ := hB
  rw [ht] at hP1
  obtain ⟨hP, hD⟩ := va_join (wr := []) (w1 := []) hP hD [] [] rfl rfl (by decide) (by decide) hk1 hFc hP1 hD1
  generalize H1 = H at hP hS ⊢
  have hP : va_P (dC, dI) x_cl [] H := hP
  have hD : va_D A [] := hD
  refine W.widen (k := 0) (n := 0) (Nat.le_of_ble_eq_true rfl) (Nat.le_of_ble_eq_true rfl) ?_
  rcases hw with ⟨i5, i5', rfl⟩ | ⟨i5, rfl⟩
  · exact absurd (by decide) i5
  · refine lv_if_eq (tgt := 38) hx hb d_Mo_channelOf_28 (by decide) (fun _ => ?_) (fun c6 => absurd (by decide) c6)
    refine lv_iconst (v := (-1)) hx hb d_Mo_channelOf_38 (by decide) ?_
    refine W.widen (k := 0) (n := 0) (Nat.le_of_ble_eq_true rfl) (Nat.le_of_ble_eq_true rfl) ?_
    exact W.iret (v := (-1)) hx hb hr (fun t ht hW => ⟨⟨(-1), (), rfl, rfl, ⟨by rw [ht]; exact hP, hD⟩⟩, hS.F ht⟩) hS.2.2 d_Mo_channelOf_39
set_option maxHeartbeats 4000000 in
set_option maxRecDepth 100000 in
theorem c_Mo_isVariable (l : Launch) (dC : Nat → ClassId) (dI : Nat → Nat → Nat) (ar : Nat → ClassId) (N0 : Nat) (z : Nat → Nat) (h0 : Nat) (fs : List Value) (sz : Nat) (g_pos : fs[6]? = some (.int 0)) (g_size : fs[4]? = some (.int 0)) : Met l ({ cls := "ChannelMachineModel", name := "isVariable", desc := "()Z" } : Jvm.MethodName) ((Jvm.Cond.code ({ cls := "ChannelMachineModel", name := "isVariable", desc := "()Z" } : Jvm.MethodName) prog_12_method_11_code (1 : Nat) (Option.some Jvm.ClassFile.FieldType.boolean)) :: x_T) ({ frames := 1, cells := 0, slots := 0, locals := 22 }) (x_Pc (dC, dI) ar N0 z [(h0, .inr (6, fs))] sz [.ref h0]) (va_Qi (fun (r : Int32) (u : Unit) => r = 0) (fun u t => va_P (dC, dI) x_cl [(h0, .inr (6, fs))] t.heap ∧ va_D (va_A [(h0, .inr (6, fs))] sz) [(h0, .inr (6, fs))]) (va_A [(h0, .inr (6, fs))] sz)) 0 0 (va_A [(h0, .inr (6, fs))] sz) := by
  refine Met.ofW (cc := prog_12_method_11_code) (maxL := 1) (ret := (some .boolean)) (by decide) rfl ?_
  intro p e s m args below meth c s₁ B hml hv
  obtain ⟨rfl, hsz, hN0, hP, hU, hZ, hD0⟩ := hv
  have hK := hU.1
  have hx := B.exec
  have hb := B.bytes
  have hr := B.returns
  have hts : ∀ w ∈ x_T, w.before ([.ref h0] : List Value).toArray s = true := fun w h => atoms_spec (ws := (Jvm.Cond.code ({ cls := "ChannelMachineModel", name := "isVariable", desc := "()Z" } : Jvm.MethodName) prog_12_method_11_code (1 : Nat) (Option.some Jvm.ClassFile.FieldType.boolean)) :: x_T) B.pre w (List.mem_cons_of_mem _ h)
  have hown : s.vm.findClass "ChannelMachineModel" = some m.cls := findClass_of_methodNamed B.named
  have hlocks := B.notSynchronized
  subst hsz
  have hD := hD0.self (sz := s.heap.size)
  have hAN := x_AN hD0 hN0
  generalize hAe : va_A [(h0, .inr (6, fs))] s.heap.size = A at hD hAN ⊢
  have hA : ∀ q : Nat, s.heap.size ≤ q → A q := fun q h => by rw [← hAe]; exact Or.inr h
  have hS : va_S A s.heap s.heap [] := va_S.rf
  have hP : va_P (dC, dI) x_cl [(h0, .inr (6, fs))] s.heap := hP
  have hl := lv_entry ([.ref h0]) (n := 1) (Nat.le_of_ble_eq_true rfl)
  rw [lg_entry_eq]
  generalize (lg_sl ([.ref h0]) ++ List.replicate (1 - (lg_sl ([.ref h0])).length) Slot.unset).toArray = ls at hl ⊢
  have hl : lv_has ls 1 [(0, .ref h0)] := hl
  have hH0 : s.heap.size ≤ s.heap.size := Nat.le_refl _
  refine lv_aload_n hx hb d_Mo_isVariable_0 rfl (lv_at hl 0 rfl) ?_
  have hPc := hP.sub (ws' := [(h0, .inr (6, fs))]) [0] rfl
  have hDc := hD.sub (ws' := [(h0, .inr (6, fs))]) [0] (by decide) rfl
  have hFc := va_free (wc := [(h0, .inr (6, fs))]) hD hS hA [0] rfl
  refine va_calli (va_runV (As := []) (rest := []) ⟨hx, hb, hml, hown, hts⟩ (c_Mo_look l dC dI ar N0 z h0 fs s.heap.size g_pos g_size) (cwV 0 hts (x_goodV k_1140 k_1142 kp_53 k_9 k_1143) rfl rfl rfl (by decide +kernel) ⟨Nat.le_of_ble_eq_true rfl, Nat.le_of_ble_eq_true rfl⟩) ⟨x_blind, va_recv hK hPc (ci := 6) (q0 := 0) rfl rfl, fun U hU9 hW => x_pre hU9 hW hPc hDc hU hZ hS hAN hN0⟩ rfl rfl hl.1 rfl (lv_room (Nat.le_of_ble_eq_true rfl)) d_Mo_isVariable_1 ⟨Nat.le_of_ble_eq_true rfl, Nat.le_of_ble_eq_true rfl⟩) hS (fun q _ h => hFc q h) hFc (fun r1 u2 t H1 locs ht hvm hw hB hz1 hk1 hS => ?_)
  obtain ⟨hP1, hD1⟩ := hB
  rw [ht] at hP1
  obtain ⟨hP, hD⟩ := va_join (wr := []) (w1 := [(h0, .inr (6, fs))]) hP hD [0] [] rfl rfl (by decide) (by decide) hk1 hFc hP1 hD1
  generalize H1 = H at hP hS ⊢
  have hP : va_P (dC, dI) x_cl [(h0, .inr (6, fs))] H := hP
  have hD : va_D A [(h0, .inr (6, fs))] := hD
  refine W.widen (k := 0) (n := 0) (Nat.le_of_ble_eq_true rfl) (Nat.le_of_ble_eq_true rfl) ?_
  obtain rfl := hw
  refine lv_bipush (v := 97) hx hb d_Mo_isVariable_4 (by decide) ?_
  refine lv_bipush (v := 102) hx hb d_Mo_isVariable_6 (by decide) ?_
  have hPc := hP.sub (ws' := []) [] rfl
  have hDc := hD.sub (ws' := []) [] (by decide) rfl
  have hFc := va_free (wc := []) hD hS hA [] rfl
  refine va_calli (va_runS (As := [.int 0, .int 97, .int 102]) (rest := []) ⟨hx, hb, hml, hown, hts⟩ (c_Mo_in l dC dI ar N0 z 0 97 102 H.size) (cwS 3 hts (x_goodS k_1113 k_1114 k_9 k_1115) rfl rfl rfl (by decide +kernel) ⟨Nat.le_of_ble_eq_true rfl, Nat.le_of_ble_eq_true rfl⟩) ⟨x_blind, fun U hU9 hW => x_pre hU9 hW hPc hDc hU hZ hS hAN hN0⟩ rfl rfl hl.1 rfl (lv_room (Nat.le_of_ble_eq_true rfl)) d_Mo_isVariable_8 ⟨Nat.le_of_ble_eq_true rfl, Nat.le_of_ble_eq_true rfl⟩) hS (fun q _ h => hFc q h) hFc (fun r3 u4 t H1 locs ht hvm hw hB hz1 hk1 hS => ?_)
  obtain ⟨hP1, hD1⟩ := hB
  rw [ht] at hP1
  obtain ⟨hP, hD⟩ := va_join (wr := [(h0, .inr (6, fs))]) (w1 := []) hP hD [] [0] rfl rfl (by decide) (by decide) hk1 hFc hP1 hD1
  generalize H1 = H at hP hS ⊢
  have hP : va_P (dC, dI) x_cl [(h0, .inr (6, fs))] H := hP
  have hD : va_D A [(h0, .inr (6, fs))] := hD
  refine W.widen (k := 0) (n := 0) (Nat.le_of_ble_eq_true rfl) (Nat.le_of_ble_eq_true rfl) ?_
  rcases hw with ⟨i5, i5', rfl⟩ | ⟨i5, rfl⟩
  · exact absurd (by decide) i5
  · refine W.widen (k := 0) (n := 0) (Nat.le_of_ble_eq_true rfl) (Nat.le_of_ble_eq_true rfl) ?_
    exact W.zret (v := 0) hx hb hr (rfl) (fun t ht hW => ⟨⟨0, (), rfl, rfl, ⟨by rw [ht]; exact hP, hD⟩⟩, hS.F ht⟩) hS.2.2 d_Mo_isVariable_11
set_option maxHeartbeats 4000000 in
set_option maxRecDepth 100000 in
theorem c_Mo_start (l : Launch) (dC : Nat → ClassId) (dI : Nat → Nat → Nat) (ar : Nat → ClassId) (N0 : Nat) (z : Nat → Nat) (h0 : Nat) (fs : List Value) (sz : Nat) (g_pos : fs[6]? = some (.int 0)) (g_size : fs[4]? = some (.int 0)) (g_at : fs[7]? = some (.int 0)) : Met l ({ cls := "ChannelMachineModel", name := "start", desc := "(I)I" } : Jvm.MethodName) ((Jvm.Cond.code ({ cls := "ChannelMachineModel", name := "start", desc := "(I)I" } : Jvm.MethodName) prog_12_method_18_code (6 : Nat) (Option.some Jvm.ClassFile.FieldType.int)) :: x_T) ({ frames := 2, cells := 0, slots := 0, locals := 42 }) (x_Pc (dC, dI) ar N0 z [(h0, .inr (6, fs))] sz [.ref h0, .int 1]) (va_Qi (fun (r : Int32) (u : Unit) => r = -1) (fun u t => va_P (dC, dI) x_cl [(h0, .inr (6, fs))] t.heap ∧ va_D (va_A [(h0, .inr (6, fs))] sz) [(h0, .inr (6, fs))]) (va_A [(h0, .inr (6, fs))] sz)) 0 0 (va_A [(h0, .inr (6, fs))] sz) := by
  refine Met.ofW (cc := prog_12_method_18_code) (maxL := 6) (ret := (some .int)) (by decide) rfl ?_
  intro p e s m args below meth c s₁ B hml hv
  obtain ⟨rfl, hsz, hN0, hP, hU, hZ, hD0⟩ := hv
  have hK := hU.1
  have hx := B.exec
  have hb := B.bytes
  have hr := B.returns
  have hts : ∀ w ∈ x_T, w.before ([.ref h0, .int 1] : List Value).toArray s = true := fun w h => atoms_spec (ws := (Jvm.Cond.code ({ cls := "ChannelMachineModel", name := "start", desc := "(I)I" } : Jvm.MethodName) prog_12_method_18_code (6 : Nat) (Option.some Jvm.ClassFile.FieldType.int)) :: x_T) B.pre w (List.mem_cons_of_mem _ h)
  have hown : s.vm.findClass "ChannelMachineModel" = some m.cls := findClass_of_methodNamed B.named
  have hlocks := B.notSynchronized
  subst hsz
  have hD := hD0.self (sz := s.heap.size)
  have hAN := x_AN hD0 hN0
  generalize hAe : va_A [(h0, .inr (6, fs))] s.heap.size = A at hD hAN ⊢
  have hA : ∀ q : Nat, s.heap.size ≤ q → A q := fun q h => by rw [← hAe]; exact Or.inr h
  have hS : va_S A s.heap s.heap [] := va_S.rf
  have hP : va_P (dC, dI) x_cl [(h0, .inr (6, fs))] s.heap := hP
  have hl := lv_entry ([.ref h0, .int 1]) (n := 6) (Nat.le_of_ble_eq_true rfl)
  rw [lg_entry_eq]
  generalize (lg_sl ([.ref h0, .int 1]) ++ List.replicate (6 - (lg_sl ([.ref h0, .int 1])).length) Slot.unset).toArray = ls at hl ⊢
  have hl : lv_has ls 6 [(0, .ref h0), (1, .int 1)] := hl
  have hH0 : s.heap.size ≤ s.heap.size := Nat.le_refl _
  refine lv_aload_n hx hb d_Mo_start_0 rfl (lv_at hl 0 rfl) ?_
  have hPc := hP.sub (ws' := [(h0, .inr (6, fs))]) [0] rfl
  have hDc := hD.sub (ws' := [(h0, .inr (6, fs))]) [0] (by decide) rfl
  have hFc := va_free (wc := [(h0, .inr (6, fs))]) hD hS hA [0] rfl
  refine va_calli (va_runV (As := []) (rest := []) ⟨hx, hb, hml, hown, hts⟩ (c_Mo_look l dC dI ar N0 z h0 fs s.heap.size g_pos g_size) (cwV 0 hts (x_goodV k_1140 k_1142 kp_53 k_9 k_1143) rfl rfl rfl (by decide +kernel) ⟨Nat.le_of_ble_eq_true rfl, Nat.le_of_ble_eq_true rfl⟩) ⟨x_blind, va_recv hK hPc (ci := 6) (q0 := 0) rfl rfl, fun U hU9 hW => x_pre hU9 hW hPc hDc hU hZ hS hAN hN0⟩ rfl rfl hl.1 rfl (lv_room (Nat.le_of_ble_eq_true rfl)) d_Mo_start_1 ⟨Nat.le_of_ble_eq_true rfl, Nat.le_of_ble_eq_true rfl⟩) hS (fun q _ h => hFc q h) hFc (fun r1 u2 t H1 locs ht hvm hw hB hz1 hk1 hS => ?_)
  obtain ⟨hP1, hD1⟩ := hB
  rw [ht] at hP1
  obtain ⟨hP, hD⟩ := va_join (wr := []) (w1 := [(h0, .inr (6, fs))]) hP hD [0] [] rfl rfl (by decide) (by decide) hk1 hFc hP1 hD1
  generalize H1 = H at hP hS ⊢
  have hP : va_P (dC, dI) x_cl [(h0, .inr (6, fs))] H := hP
  have hD : va_D A [(h0, .inr (6, fs))] := hD
  refine W.widen (k := 0) (n := 0) (Nat.le_of_ble_eq_true rfl) (Nat.le_of_ble_eq_true rfl) ?_
  obtain rfl := hw
  refine lv_istore_n (lv' := [(2, .int 0), (0, .ref h0), (1, .int 1)]) hx hb d_Mo_start_4 rfl hl (by decide) rfl (fun ls hl => ?_)
  refine lv_aload_n hx hb d_Mo_start_5 rfl (lv_at hl 1 rfl) ?_
  refine va_get (D := (dC, dI)) (ci := 6) (v := .int 0) (C := "ChannelMachineModel") (T := F_Mo) (N := 45) hx hb hts i_Mo hown hK hP 0 rfl rfl 7 (by decide) (hts _ k_974) (fun _ h9 => h9) g_at d_Mo_start_6 ?_
  refine lv_istore_n (lv' := [(3, .int 0), (2, .int 0), (0, .ref h0), (1, .int 1)]) hx hb d_Mo_start_9 rfl hl (by decide) rfl (fun ls hl => ?_)
  refine lv_iload_n hx hb d_Mo_start_10 rfl (lv_at hl 1 rfl) ?_
  have hPc := hP.sub (ws' := []) [] rfl
  have hDc := hD.sub (ws' := []) [] (by decide) rfl
  have hFc := va_free (wc := []) hD hS hA [] rfl
  refine va_calli (va_runS (As := [.int 0]) (rest := []) ⟨hx, hb, hml, hown, hts⟩ (c_Mo_channelOf l dC dI ar N0 z H.size) (cwS 1 hts (x_goodS k_1179 k_1180 k_9 k_1181) rfl rfl rfl (by decide +kernel) ⟨Nat.le_of_ble_eq_true rfl, Nat.le_of_ble_eq_true rfl⟩) ⟨x_blind, fun U hU9 hW => x_pre hU9 hW hPc hDc hU hZ hS hAN hN0⟩ rfl rfl hl.1 rfl (lv_room (Nat.le_of_ble_eq_true rfl)) d_Mo_start_11 ⟨Nat.le_of_ble_eq_true rfl, Nat.le_of_ble_eq_true rfl⟩) hS (fun q _ h => hFc q h) hFc (fun r3 u4 t H1 locs ht hvm hw hB hz1 hk1 hS => ?_)
  obtain ⟨hP1, hD1⟩ := hB
  rw [ht] at hP1
  obtain ⟨hP, hD⟩ := va_join (wr := [(h0, .inr (6, fs))]) (w1 := []) hP hD [] [0] rfl rfl (by decide) (by decide) hk1 hFc hP1 hD1
  generalize H1 = H at hP hS ⊢
  have hP : va_P (dC, dI) x_cl [(h0, .inr (6, fs))] H := hP
  have hD : va_D A [(h0, .inr (6, fs))] := hD
  refine W.widen (k := 0) (n := 0) (Nat.le_of_ble_eq_true rfl) (Nat.le_of_ble_eq_true rfl) ?_
  obtain rfl := hw
  refine lv_istore (lv' := [(4, .int (-1)), (3, .int 0), (2, .int 0), (0, .ref h0), (1, .int 1)]) hx hb d_Mo_start_14 hl (by decide) rfl (fun ls hl => ?_)
  refine lv_iload_n hx hb d_Mo_start_16 rfl (lv_at hl 4 rfl) ?_
  refine lv_bipush (v := 7) hx hb d_Mo_start_17 (by decide) ?_
  refine lv_icmp_gt (tgt := 40) hx hb d_Mo_start_19 (by decide) (fun c5 => absurd c5 (by decide)) (fun _ => ?_)
  refine lv_iload_n hx hb d_Mo_start_22 rfl (lv_at hl 4 rfl) ?_
  refine lv_bipush (v := 7) hx hb d_Mo_start_23 (by decide) ?_
  refine lv_icmp_ne (tgt := 42) hx hb d_Mo_start_25 (by decide) (fun _ => ?_) (fun c6 => absurd c6 (by decide))
  refine lv_aload_n hx hb d_Mo_start_42 rfl (lv_at hl 3 rfl) ?_
  have hPc := hP.sub (ws' := [(h0, .inr (6, fs))]) [0] rfl
  have hDc := hD.sub (ws' := [(h0, .inr (6, fs))]) [0] (by decide) rfl
  have hFc := va_free (wc := [(h0, .inr (6, fs))]) hD hS hA [0] rfl
  refine va_calli (va_runV (As := []) (rest := []) ⟨hx, hb, hml, hown, hts⟩ (c_Mo_isVariable l dC dI ar N0 z h0 fs H.size g_pos g_size) (cwV 0 hts (x_goodV k_1164 k_1166 kp_59 k_9 k_1167) rfl rfl rfl (by decide +kernel) ⟨Nat.le_of_ble_eq_true rfl, Nat.le_of_ble_eq_true rfl⟩) ⟨x_blind, va_recv hK hPc (ci := 6) (q0 := 0) rfl rfl, fun U hU9 hW => x_pre hU9 hW hPc hDc hU hZ hS hAN hN0⟩ rfl rfl hl.1 rfl (lv_room (Nat.le_of_ble_eq_true rfl)) d_Mo_start_43 ⟨Nat.le_of_ble_eq_true rfl, Nat.le_of_ble_eq_true rfl⟩) hS (fun q _ h => hFc q h) hFc (fun r7 u8 t H1 locs ht hvm hw hB hz1 hk1 hS => ?_)
  obtain ⟨hP1, hD1⟩ := hB
  rw [ht] at hP1
  obtain ⟨hP, hD⟩ := va_join (wr := []) (w1 := [(h0, .inr (6, fs))]) hP hD [0] [] rfl rfl (by decide) (by decide) hk1 hFc hP1 hD1
  generalize H1 = H at hP hS ⊢
  have hP : va_P (dC, dI) x_cl [(h0, .inr (6, fs))] H := hP
  have hD : va_D A [(h0, .inr (6, fs))] := hD
  refine W.widen (k := 0) (n := 0) (Nat.le_of_ble_eq_true rfl) (Nat.le_of_ble_eq_true rfl) ?_
  obtain rfl := hw
  refine lv_if_eq (tgt := 90) hx hb d_Mo_start_46 (by decide) (fun _ => ?_) (fun c9 => absurd (by decide) c9)
  refine lv_iload hx hb d_Mo_start_90 (lv_at hl 0 rfl) ?_
  refine lv_if_lt (tgt := 196) hx hb d_Mo_start_92 (by decide) (fun _ => ?_) (fun c10 => absurd (by decide) c10)
  refine lv_iload_n hx hb d_Mo_start_196 rfl (lv_at hl 2 rfl) ?_
  refine lv_if_eq (tgt := 248) hx hb d_Mo_start_197 (by decide) (fun _ => ?_) (fun c11 => absurd (by decide) c11)
  refine lv_iconst (v := (-1)) hx hb d_Mo_start_248 (by decide) ?_
  refine W.widen (k := 0) (n := 0) (Nat.le_of_ble_eq_true rfl) (Nat.le_of_ble_eq_true rfl) ?_
  exact W.iret (v := (-1)) hx hb hr (fun t ht hW => ⟨⟨(-1), (), rfl, rfl, ⟨by rw [ht]; exact hP, hD⟩⟩, hS.F ht⟩) hS.2.2 d_Mo_start_249
end
