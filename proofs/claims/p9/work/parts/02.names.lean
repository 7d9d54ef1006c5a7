-- ===== PART A: goes FIRST, ahead of the names: the tables' words, and 'selects' of the private methods out of them =====
/-- a private method of a class that the tables say can be made, by its rows of tables_1 -/
def lw_okq (q : MethodName × Nat) : Prop := (q.1.cls ≠ "java/lang/invoke/MethodHandle" ∧ q.1.cls ≠ "java/lang/invoke/VarHandle") ∧ Cond.instantiable q.1.cls q.2 ∈ tables_1 ∧ Cond.privateMethod q.1 ∈ tables_1 ∧ Cond.instanceMethod q.1 ∈ tables_1
theorem lw_p0 : lw_okq (⟨"ThirdAfter", "addFromThree", "(LThirdAfter$Shelf;I)Z"⟩, 8) := ⟨⟨by decide +kernel, by decide +kernel⟩, List.mem_of_getElem? (i := 20) (by decide +kernel), List.mem_of_getElem? (i := 379) (by decide +kernel), List.mem_of_getElem? (i := 380) (by decide +kernel)⟩
theorem lw_p1 : lw_okq (⟨"ThirdAfter", "isTold", "(II)Z"⟩, 8) := ⟨⟨by decide +kernel, by decide +kernel⟩, List.mem_of_getElem? (i := 20) (by decide +kernel), List.mem_of_getElem? (i := 387) (by decide +kernel), List.mem_of_getElem? (i := 388) (by decide +kernel)⟩
theorem lw_p2 : lw_okq (⟨"ThirdAfter", "isBuyer", "(I)Z"⟩, 8) := ⟨⟨by decide +kernel, by decide +kernel⟩, List.mem_of_getElem? (i := 20) (by decide +kernel), List.mem_of_getElem? (i := 391) (by decide +kernel), List.mem_of_getElem? (i := 392) (by decide +kernel)⟩
theorem lw_p3 : lw_okq (⟨"ThirdAfter$Market", "column", "(I)[I"⟩, 18) := ⟨⟨by decide +kernel, by decide +kernel⟩, List.mem_of_getElem? (i := 28) (by decide +kernel), List.mem_of_getElem? (i := 404) (by decide +kernel), List.mem_of_getElem? (i := 405) (by decide +kernel)⟩
theorem lw_p4 : lw_okq (⟨"ThirdAfter$Changes", "forgetOldest", "()V"⟩, 6) := ⟨⟨by decide +kernel, by decide +kernel⟩, List.mem_of_getElem? (i := 215) (by decide +kernel), List.mem_of_getElem? (i := 416) (by decide +kernel), List.mem_of_getElem? (i := 417) (by decide +kernel)⟩
theorem lw_p5 : lw_okq (⟨"ThirdAfter$Tape", "readLine", "()V"⟩, 5) := ⟨⟨by decide +kernel, by decide +kernel⟩, List.mem_of_getElem? (i := 271) (by decide +kernel), List.mem_of_getElem? (i := 447) (by decide +kernel), List.mem_of_getElem? (i := 448) (by decide +kernel)⟩
theorem lw_p6 : lw_okq (⟨"ThirdAfter$Tape", "readEither", "(I)V"⟩, 5) := ⟨⟨by decide +kernel, by decide +kernel⟩, List.mem_of_getElem? (i := 271) (by decide +kernel), List.mem_of_getElem? (i := 451) (by decide +kernel), List.mem_of_getElem? (i := 452) (by decide +kernel)⟩
theorem lw_p7 : lw_okq (⟨"ThirdAfter$Tape", "readBoth", "(I)V"⟩, 5) := ⟨⟨by decide +kernel, by decide +kernel⟩, List.mem_of_getElem? (i := 271) (by decide +kernel), List.mem_of_getElem? (i := 455) (by decide +kernel), List.mem_of_getElem? (i := 456) (by decide +kernel)⟩
theorem lw_p8 : lw_okq (⟨"ThirdAfter$Tape", "readCompared", "(I)V"⟩, 5) := ⟨⟨by decide +kernel, by decide +kernel⟩, List.mem_of_getElem? (i := 271) (by decide +kernel), List.mem_of_getElem? (i := 459) (by decide +kernel), List.mem_of_getElem? (i := 460) (by decide +kernel)⟩
theorem lw_p9 : lw_okq (⟨"ThirdAfter$Tape", "readSum", "(I)V"⟩, 5) := ⟨⟨by decide +kernel, by decide +kernel⟩, List.mem_of_getElem? (i := 271) (by decide +kernel), List.mem_of_getElem? (i := 463) (by decide +kernel), List.mem_of_getElem? (i := 464) (by decide +kernel)⟩
theorem lw_p10 : lw_okq (⟨"ThirdAfter$Tape", "readProduct", "(I)V"⟩, 5) := ⟨⟨by decide +kernel, by decide +kernel⟩, List.mem_of_getElem? (i := 271) (by decide +kernel), List.mem_of_getElem? (i := 467) (by decide +kernel), List.mem_of_getElem? (i := 468) (by decide +kernel)⟩
theorem lw_p11 : lw_okq (⟨"ThirdAfter$Tape", "readPart", "(I)V"⟩, 5) := ⟨⟨by decide +kernel, by decide +kernel⟩, List.mem_of_getElem? (i := 271) (by decide +kernel), List.mem_of_getElem? (i := 471) (by decide +kernel), List.mem_of_getElem? (i := 472) (by decide +kernel)⟩
theorem lw_p12 : lw_okq (⟨"ThirdAfter$Tape", "here", "()I"⟩, 5) := ⟨⟨by decide +kernel, by decide +kernel⟩, List.mem_of_getElem? (i := 271) (by decide +kernel), List.mem_of_getElem? (i := 475) (by decide +kernel), List.mem_of_getElem? (i := 476) (by decide +kernel)⟩
theorem lw_p13 : lw_okq (⟨"ThirdAfter$Tape", "readNumber", "()V"⟩, 5) := ⟨⟨by decide +kernel, by decide +kernel⟩, List.mem_of_getElem? (i := 271) (by decide +kernel), List.mem_of_getElem? (i := 482) (by decide +kernel), List.mem_of_getElem? (i := 483) (by decide +kernel)⟩
theorem lw_p14 : lw_okq (⟨"ThirdAfter$Tape", "takeOf", "(Ljava/lang/String;)I"⟩, 5) := ⟨⟨by decide +kernel, by decide +kernel⟩, List.mem_of_getElem? (i := 271) (by decide +kernel), List.mem_of_getElem? (i := 491) (by decide +kernel), List.mem_of_getElem? (i := 492) (by decide +kernel)⟩
theorem lw_p15 : lw_okq (⟨"ThirdAfter$Tape", "take", "(I)Z"⟩, 5) := ⟨⟨by decide +kernel, by decide +kernel⟩, List.mem_of_getElem? (i := 271) (by decide +kernel), List.mem_of_getElem? (i := 573) (by decide +kernel), List.mem_of_getElem? (i := 574) (by decide +kernel)⟩
def lw_privs_1 : List (MethodName × Nat) := [(⟨"ThirdAfter", "addFromThree", "(LThirdAfter$Shelf;I)Z"⟩, 8), (⟨"ThirdAfter", "isTold", "(II)Z"⟩, 8), (⟨"ThirdAfter", "isBuyer", "(I)Z"⟩, 8), (⟨"ThirdAfter$Market", "column", "(I)[I"⟩, 18), (⟨"ThirdAfter$Changes", "forgetOldest", "()V"⟩, 6), (⟨"ThirdAfter$Tape", "readLine", "()V"⟩, 5), (⟨"ThirdAfter$Tape", "readEither", "(I)V"⟩, 5), (⟨"ThirdAfter$Tape", "readBoth", "(I)V"⟩, 5), (⟨"ThirdAfter$Tape", "readCompared", "(I)V"⟩, 5), (⟨"ThirdAfter$Tape", "readSum", "(I)V"⟩, 5), (⟨"ThirdAfter$Tape", "readProduct", "(I)V"⟩, 5), (⟨"ThirdAfter$Tape", "readPart", "(I)V"⟩, 5), (⟨"ThirdAfter$Tape", "here", "()I"⟩, 5), (⟨"ThirdAfter$Tape", "readNumber", "()V"⟩, 5), (⟨"ThirdAfter$Tape", "takeOf", "(Ljava/lang/String;)I"⟩, 5), (⟨"ThirdAfter$Tape", "take", "(I)Z"⟩, 5)]
theorem lw_r1 : ∀ q ∈ lw_privs_1, lw_okq q := List.forall_mem_cons.mpr ⟨lw_p0, List.forall_mem_cons.mpr ⟨lw_p1, List.forall_mem_cons.mpr ⟨lw_p2, List.forall_mem_cons.mpr ⟨lw_p3, List.forall_mem_cons.mpr ⟨lw_p4, List.forall_mem_cons.mpr ⟨lw_p5, List.forall_mem_cons.mpr ⟨lw_p6, List.forall_mem_cons.mpr ⟨lw_p7, List.forall_mem_cons.mpr ⟨lw_p8, List.forall_mem_cons.mpr ⟨lw_p9, List.forall_mem_cons.mpr ⟨lw_p10, List.forall_mem_cons.mpr ⟨lw_p11, List.forall_mem_cons.mpr ⟨lw_p12, List.forall_mem_cons.mpr ⟨lw_p13, List.forall_mem_cons.mpr ⟨lw_p14, List.forall_mem_cons.mpr ⟨lw_p15, fun _ h => absurd h List.not_mem_nil⟩⟩⟩⟩⟩⟩⟩⟩⟩⟩⟩⟩⟩⟩⟩⟩
theorem lw_p16 : lw_okq (⟨"ThirdAfter", "plan", "(I)I"⟩, 8) := ⟨⟨by decide +kernel, by decide +kernel⟩, List.mem_of_getElem? (i := 20) (by decide +kernel), List.mem_of_getElem? (i := 596) (by decide +kernel), List.mem_of_getElem? (i := 597) (by decide +kernel)⟩
theorem lw_p17 : lw_okq (⟨"ThirdAfter", "refusalOfBytes", "(I)I"⟩, 8) := ⟨⟨by decide +kernel, by decide +kernel⟩, List.mem_of_getElem? (i := 20) (by decide +kernel), List.mem_of_getElem? (i := 600) (by decide +kernel), List.mem_of_getElem? (i := 601) (by decide +kernel)⟩
theorem lw_p18 : lw_okq (⟨"ThirdAfter$Thought", "run", "()V"⟩, 10) := ⟨⟨by decide +kernel, by decide +kernel⟩, List.mem_of_getElem? (i := 167) (by decide +kernel), List.mem_of_getElem? (i := 628) (by decide +kernel), List.mem_of_getElem? (i := 629) (by decide +kernel)⟩
theorem lw_p19 : lw_okq (⟨"ThirdAfter$Market", "payOldestTo", "(I)V"⟩, 18) := ⟨⟨by decide +kernel, by decide +kernel⟩, List.mem_of_getElem? (i := 28) (by decide +kernel), List.mem_of_getElem? (i := 636) (by decide +kernel), List.mem_of_getElem? (i := 637) (by decide +kernel)⟩
theorem lw_p20 : lw_okq (⟨"ThirdAfter$Market", "buysFor", "(II)I"⟩, 18) := ⟨⟨by decide +kernel, by decide +kernel⟩, List.mem_of_getElem? (i := 28) (by decide +kernel), List.mem_of_getElem? (i := 644) (by decide +kernel), List.mem_of_getElem? (i := 645) (by decide +kernel)⟩
theorem lw_p21 : lw_okq (⟨"ThirdAfter$Law", "push", "(I)V"⟩, 6) := ⟨⟨by decide +kernel, by decide +kernel⟩, List.mem_of_getElem? (i := 57) (by decide +kernel), List.mem_of_getElem? (i := 652) (by decide +kernel), List.mem_of_getElem? (i := 653) (by decide +kernel)⟩
theorem lw_p22 : lw_okq (⟨"ThirdAfter$Law", "pop", "()I"⟩, 6) := ⟨⟨by decide +kernel, by decide +kernel⟩, List.mem_of_getElem? (i := 57) (by decide +kernel), List.mem_of_getElem? (i := 656) (by decide +kernel), List.mem_of_getElem? (i := 657) (by decide +kernel)⟩
theorem lw_p23 : lw_okq (⟨"ThirdAfter$Thought", "insert", "(II)V"⟩, 10) := ⟨⟨by decide +kernel, by decide +kernel⟩, List.mem_of_getElem? (i := 167) (by decide +kernel), List.mem_of_getElem? (i := 696) (by decide +kernel), List.mem_of_getElem? (i := 697) (by decide +kernel)⟩
theorem lw_p24 : lw_okq (⟨"ThirdAfter$Thought", "purseBehind", "(LThirdAfter$Market;I)I"⟩, 10) := ⟨⟨by decide +kernel, by decide +kernel⟩, List.mem_of_getElem? (i := 167) (by decide +kernel), List.mem_of_getElem? (i := 701) (by decide +kernel), List.mem_of_getElem? (i := 702) (by decide +kernel)⟩
theorem lw_p25 : lw_okq (⟨"ThirdAfter$Thought", "swap", "(II)V"⟩, 10) := ⟨⟨by decide +kernel, by decide +kernel⟩, List.mem_of_getElem? (i := 167) (by decide +kernel), List.mem_of_getElem? (i := 706) (by decide +kernel), List.mem_of_getElem? (i := 707) (by decide +kernel)⟩
theorem lw_p26 : lw_okq (⟨"ThirdAfter$Thought", "goToNextOrder", "()Z"⟩, 10) := ⟨⟨by decide +kernel, by decide +kernel⟩, List.mem_of_getElem? (i := 167) (by decide +kernel), List.mem_of_getElem? (i := 740) (by decide +kernel), List.mem_of_getElem? (i := 741) (by decide +kernel)⟩
theorem lw_p27 : lw_okq (⟨"ThirdAfter", "isPair", "(I)Z"⟩, 8) := ⟨⟨by decide +kernel, by decide +kernel⟩, List.mem_of_getElem? (i := 20) (by decide +kernel), List.mem_of_getElem? (i := 748) (by decide +kernel), List.mem_of_getElem? (i := 749) (by decide +kernel)⟩
theorem lw_p28 : lw_okq (⟨"ThirdAfter$Latches", "run", "(IIIII)I"⟩, 4) := ⟨⟨by decide +kernel, by decide +kernel⟩, List.mem_of_getElem? (i := 246) (by decide +kernel), List.mem_of_getElem? (i := 876) (by decide +kernel), List.mem_of_getElem? (i := 877) (by decide +kernel)⟩
theorem lw_p29 : lw_okq (⟨"ThirdAfter$Latches", "runTopmost", "(IIII)I"⟩, 4) := ⟨⟨by decide +kernel, by decide +kernel⟩, List.mem_of_getElem? (i := 246) (by decide +kernel), List.mem_of_getElem? (i := 887) (by decide +kernel), List.mem_of_getElem? (i := 888) (by decide +kernel)⟩
theorem lw_p30 : lw_okq (⟨"ThirdAfter", "refusalOfCell", "(II)I"⟩, 8) := ⟨⟨by decide +kernel, by decide +kernel⟩, List.mem_of_getElem? (i := 20) (by decide +kernel), List.mem_of_getElem? (i := 918) (by decide +kernel), List.mem_of_getElem? (i := 919) (by decide +kernel)⟩
theorem lw_p31 : lw_okq (⟨"ThirdAfterModel", "newBuyer", "(III)I"⟩, 54) := ⟨⟨by decide +kernel, by decide +kernel⟩, List.mem_of_getElem? (i := 951) (by decide +kernel), List.mem_of_getElem? (i := 1127) (by decide +kernel), List.mem_of_getElem? (i := 1128) (by decide +kernel)⟩
def lw_privs_2 : List (MethodName × Nat) := [(⟨"ThirdAfter", "plan", "(I)I"⟩, 8), (⟨"ThirdAfter", "refusalOfBytes", "(I)I"⟩, 8), (⟨"ThirdAfter$Thought", "run", "()V"⟩, 10), (⟨"ThirdAfter$Market", "payOldestTo", "(I)V"⟩, 18), (⟨"ThirdAfter$Market", "buysFor", "(II)I"⟩, 18), (⟨"ThirdAfter$Law", "push", "(I)V"⟩, 6), (⟨"ThirdAfter$Law", "pop", "()I"⟩, 6), (⟨"ThirdAfter$Thought", "insert", "(II)V"⟩, 10), (⟨"ThirdAfter$Thought", "purseBehind", "(LThirdAfter$Market;I)I"⟩, 10), (⟨"ThirdAfter$Thought", "swap", "(II)V"⟩, 10), (⟨"ThirdAfter$Thought", "goToNextOrder", "()Z"⟩, 10), (⟨"ThirdAfter", "isPair", "(I)Z"⟩, 8), (⟨"ThirdAfter$Latches", "run", "(IIIII)I"⟩, 4), (⟨"ThirdAfter$Latches", "runTopmost", "(IIII)I"⟩, 4), (⟨"ThirdAfter", "refusalOfCell", "(II)I"⟩, 8), (⟨"ThirdAfterModel", "newBuyer", "(III)I"⟩, 54)]
theorem lw_r2 : ∀ q ∈ lw_privs_2, lw_okq q := List.forall_mem_cons.mpr ⟨lw_p16, List.forall_mem_cons.mpr ⟨lw_p17, List.forall_mem_cons.mpr ⟨lw_p18, List.forall_mem_cons.mpr ⟨lw_p19, List.forall_mem_cons.mpr ⟨lw_p20, List.forall_mem_cons.mpr ⟨lw_p21, List.forall_mem_cons.mpr ⟨lw_p22, List.forall_mem_cons.mpr ⟨lw_p23, List.forall_mem_cons.mpr ⟨lw_p24, List.forall_mem_cons.mpr ⟨lw_p25, List.forall_mem_cons.mpr ⟨lw_p26, List.forall_mem_cons.mpr ⟨lw_p27, List.forall_mem_cons.mpr ⟨lw_p28, List.forall_mem_cons.mpr ⟨lw_p29, List.forall_mem_cons.mpr ⟨lw_p30, List.forall_mem_cons.mpr ⟨lw_p31, fun _ h => absurd h List.not_mem_nil⟩⟩⟩⟩⟩⟩⟩⟩⟩⟩⟩⟩⟩⟩⟩⟩
theorem lw_p32 : lw_okq (⟨"ThirdAfterModel", "toldAt", "(II)I"⟩, 54) := ⟨⟨by decide +kernel, by decide +kernel⟩, List.mem_of_getElem? (i := 951) (by decide +kernel), List.mem_of_getElem? (i := 1139) (by decide +kernel), List.mem_of_getElem? (i := 1140) (by decide +kernel)⟩
theorem lw_p33 : lw_okq (⟨"ThirdAfterModel", "isOf", "(II)Z"⟩, 54) := ⟨⟨by decide +kernel, by decide +kernel⟩, List.mem_of_getElem? (i := 951) (by decide +kernel), List.mem_of_getElem? (i := 1147) (by decide +kernel), List.mem_of_getElem? (i := 1148) (by decide +kernel)⟩
theorem lw_p34 : lw_okq (⟨"ThirdAfterModel", "isBuyer", "(I)Z"⟩, 54) := ⟨⟨by decide +kernel, by decide +kernel⟩, List.mem_of_getElem? (i := 951) (by decide +kernel), List.mem_of_getElem? (i := 1151) (by decide +kernel), List.mem_of_getElem? (i := 1152) (by decide +kernel)⟩
theorem lw_p35 : lw_okq (⟨"ThirdAfterModel", "get", "(II)I"⟩, 54) := ⟨⟨by decide +kernel, by decide +kernel⟩, List.mem_of_getElem? (i := 951) (by decide +kernel), List.mem_of_getElem? (i := 1158) (by decide +kernel), List.mem_of_getElem? (i := 1159) (by decide +kernel)⟩
theorem lw_p36 : lw_okq (⟨"ThirdAfterModel", "becomes", "(III)V"⟩, 54) := ⟨⟨by decide +kernel, by decide +kernel⟩, List.mem_of_getElem? (i := 951) (by decide +kernel), List.mem_of_getElem? (i := 1162) (by decide +kernel), List.mem_of_getElem? (i := 1163) (by decide +kernel)⟩
theorem lw_p37 : lw_okq (⟨"ThirdAfterModel", "isLine", "()Z"⟩, 54) := ⟨⟨by decide +kernel, by decide +kernel⟩, List.mem_of_getElem? (i := 951) (by decide +kernel), List.mem_of_getElem? (i := 1186) (by decide +kernel), List.mem_of_getElem? (i := 1187) (by decide +kernel)⟩
theorem lw_p38 : lw_okq (⟨"ThirdAfterModel", "isE", "()Z"⟩, 54) := ⟨⟨by decide +kernel, by decide +kernel⟩, List.mem_of_getElem? (i := 951) (by decide +kernel), List.mem_of_getElem? (i := 1190) (by decide +kernel), List.mem_of_getElem? (i := 1191) (by decide +kernel)⟩
theorem lw_p39 : lw_okq (⟨"ThirdAfterModel", "isA", "()Z"⟩, 54) := ⟨⟨by decide +kernel, by decide +kernel⟩, List.mem_of_getElem? (i := 951) (by decide +kernel), List.mem_of_getElem? (i := 1194) (by decide +kernel), List.mem_of_getElem? (i := 1195) (by decide +kernel)⟩
theorem lw_p40 : lw_okq (⟨"ThirdAfterModel", "isB", "()Z"⟩, 54) := ⟨⟨by decide +kernel, by decide +kernel⟩, List.mem_of_getElem? (i := 951) (by decide +kernel), List.mem_of_getElem? (i := 1198) (by decide +kernel), List.mem_of_getElem? (i := 1199) (by decide +kernel)⟩
theorem lw_p41 : lw_okq (⟨"ThirdAfterModel", "isS", "()Z"⟩, 54) := ⟨⟨by decide +kernel, by decide +kernel⟩, List.mem_of_getElem? (i := 951) (by decide +kernel), List.mem_of_getElem? (i := 1202) (by decide +kernel), List.mem_of_getElem? (i := 1203) (by decide +kernel)⟩
theorem lw_p42 : lw_okq (⟨"ThirdAfterModel", "isP", "()Z"⟩, 54) := ⟨⟨by decide +kernel, by decide +kernel⟩, List.mem_of_getElem? (i := 951) (by decide +kernel), List.mem_of_getElem? (i := 1206) (by decide +kernel), List.mem_of_getElem? (i := 1207) (by decide +kernel)⟩
theorem lw_p43 : lw_okq (⟨"ThirdAfterModel", "isO", "()Z"⟩, 54) := ⟨⟨by decide +kernel, by decide +kernel⟩, List.mem_of_getElem? (i := 951) (by decide +kernel), List.mem_of_getElem? (i := 1210) (by decide +kernel), List.mem_of_getElem? (i := 1211) (by decide +kernel)⟩
theorem lw_p44 : lw_okq (⟨"ThirdAfterModel", "isDigit", "()Z"⟩, 54) := ⟨⟨by decide +kernel, by decide +kernel⟩, List.mem_of_getElem? (i := 951) (by decide +kernel), List.mem_of_getElem? (i := 1214) (by decide +kernel), List.mem_of_getElem? (i := 1215) (by decide +kernel)⟩
theorem lw_p45 : lw_okq (⟨"ThirdAfterModel", "sign", "()I"⟩, 54) := ⟨⟨by decide +kernel, by decide +kernel⟩, List.mem_of_getElem? (i := 951) (by decide +kernel), List.mem_of_getElem? (i := 1218) (by decide +kernel), List.mem_of_getElem? (i := 1219) (by decide +kernel)⟩
theorem lw_p46 : lw_okq (⟨"ThirdAfterModel", "codes", "(I)Z"⟩, 54) := ⟨⟨by decide +kernel, by decide +kernel⟩, List.mem_of_getElem? (i := 951) (by decide +kernel), List.mem_of_getElem? (i := 1222) (by decide +kernel), List.mem_of_getElem? (i := 1223) (by decide +kernel)⟩
theorem lw_p47 : lw_okq (⟨"ThirdAfterModel", "is", "(I)Z"⟩, 54) := ⟨⟨by decide +kernel, by decide +kernel⟩, List.mem_of_getElem? (i := 951) (by decide +kernel), List.mem_of_getElem? (i := 1229) (by decide +kernel), List.mem_of_getElem? (i := 1230) (by decide +kernel)⟩
def lw_privs_3 : List (MethodName × Nat) := [(⟨"ThirdAfterModel", "toldAt", "(II)I"⟩, 54), (⟨"ThirdAfterModel", "isOf", "(II)Z"⟩, 54), (⟨"ThirdAfterModel", "isBuyer", "(I)Z"⟩, 54), (⟨"ThirdAfterModel", "get", "(II)I"⟩, 54), (⟨"ThirdAfterModel", "becomes", "(III)V"⟩, 54), (⟨"ThirdAfterModel", "isLine", "()Z"⟩, 54), (⟨"ThirdAfterModel", "isE", "()Z"⟩, 54), (⟨"ThirdAfterModel", "isA", "()Z"⟩, 54), (⟨"ThirdAfterModel", "isB", "()Z"⟩, 54), (⟨"ThirdAfterModel", "isS", "()Z"⟩, 54), (⟨"ThirdAfterModel", "isP", "()Z"⟩, 54), (⟨"ThirdAfterModel", "isO", "()Z"⟩, 54), (⟨"ThirdAfterModel", "isDigit", "()Z"⟩, 54), (⟨"ThirdAfterModel", "sign", "()I"⟩, 54), (⟨"ThirdAfterModel", "codes", "(I)Z"⟩, 54), (⟨"ThirdAfterModel", "is", "(I)Z"⟩, 54)]
theorem lw_r3 : ∀ q ∈ lw_privs_3, lw_okq q := List.forall_mem_cons.mpr ⟨lw_p32, List.forall_mem_cons.mpr ⟨lw_p33, List.forall_mem_cons.mpr ⟨lw_p34, List.forall_mem_cons.mpr ⟨lw_p35, List.forall_mem_cons.mpr ⟨lw_p36, List.forall_mem_cons.mpr ⟨lw_p37, List.forall_mem_cons.mpr ⟨lw_p38, List.forall_mem_cons.mpr ⟨lw_p39, List.forall_mem_cons.mpr ⟨lw_p40, List.forall_mem_cons.mpr ⟨lw_p41, List.forall_mem_cons.mpr ⟨lw_p42, List.forall_mem_cons.mpr ⟨lw_p43, List.forall_mem_cons.mpr ⟨lw_p44, List.forall_mem_cons.mpr ⟨lw_p45, List.forall_mem_cons.mpr ⟨lw_p46, List.forall_mem_cons.mpr ⟨lw_p47, fun _ h => absurd h List.not_mem_nil⟩⟩⟩⟩⟩⟩⟩⟩⟩⟩⟩⟩⟩⟩⟩⟩
theorem lw_p48 : lw_okq (⟨"ThirdAfterModel", "noBytes", "(I)I"⟩, 54) := ⟨⟨by decide +kernel, by decide +kernel⟩, List.mem_of_getElem? (i := 951) (by decide +kernel), List.mem_of_getElem? (i := 1241) (by decide +kernel), List.mem_of_getElem? (i := 1242) (by decide +kernel)⟩
theorem lw_p49 : lw_okq (⟨"ThirdAfterModel", "reads", "(I)V"⟩, 54) := ⟨⟨by decide +kernel, by decide +kernel⟩, List.mem_of_getElem? (i := 951) (by decide +kernel), List.mem_of_getElem? (i := 1245) (by decide +kernel), List.mem_of_getElem? (i := 1246) (by decide +kernel)⟩
theorem lw_p50 : lw_okq (⟨"ThirdAfterModel", "begins", "()V"⟩, 54) := ⟨⟨by decide +kernel, by decide +kernel⟩, List.mem_of_getElem? (i := 951) (by decide +kernel), List.mem_of_getElem? (i := 1249) (by decide +kernel), List.mem_of_getElem? (i := 1250) (by decide +kernel)⟩
theorem lw_p51 : lw_okq (⟨"ThirdAfterModel", "keeps", "([II)V"⟩, 54) := ⟨⟨by decide +kernel, by decide +kernel⟩, List.mem_of_getElem? (i := 951) (by decide +kernel), List.mem_of_getElem? (i := 1253) (by decide +kernel), List.mem_of_getElem? (i := 1254) (by decide +kernel)⟩
theorem lw_p52 : lw_okq (⟨"ThirdAfterModel", "goes", "()V"⟩, 54) := ⟨⟨by decide +kernel, by decide +kernel⟩, List.mem_of_getElem? (i := 951) (by decide +kernel), List.mem_of_getElem? (i := 1257) (by decide +kernel), List.mem_of_getElem? (i := 1258) (by decide +kernel)⟩
theorem lw_p53 : lw_okq (⟨"ThirdAfterModel", "goesIn", "(I)Z"⟩, 54) := ⟨⟨by decide +kernel, by decide +kernel⟩, List.mem_of_getElem? (i := 951) (by decide +kernel), List.mem_of_getElem? (i := 1261) (by decide +kernel), List.mem_of_getElem? (i := 1262) (by decide +kernel)⟩
theorem lw_p54 : lw_okq (⟨"ThirdAfterModel", "pays", "(I)V"⟩, 54) := ⟨⟨by decide +kernel, by decide +kernel⟩, List.mem_of_getElem? (i := 951) (by decide +kernel), List.mem_of_getElem? (i := 1265) (by decide +kernel), List.mem_of_getElem? (i := 1266) (by decide +kernel)⟩
theorem lw_p55 : lw_okq (⟨"ThirdAfterModel", "buysFor", "(II)I"⟩, 54) := ⟨⟨by decide +kernel, by decide +kernel⟩, List.mem_of_getElem? (i := 951) (by decide +kernel), List.mem_of_getElem? (i := 1270) (by decide +kernel), List.mem_of_getElem? (i := 1271) (by decide +kernel)⟩
theorem lw_p56 : lw_okq (⟨"ThirdAfterModel", "byLaw", "(I)I"⟩, 54) := ⟨⟨by decide +kernel, by decide +kernel⟩, List.mem_of_getElem? (i := 951) (by decide +kernel), List.mem_of_getElem? (i := 1274) (by decide +kernel), List.mem_of_getElem? (i := 1275) (by decide +kernel)⟩
theorem lw_p57 : lw_okq (⟨"ThirdAfterModel", "worked", "(II)I"⟩, 54) := ⟨⟨by decide +kernel, by decide +kernel⟩, List.mem_of_getElem? (i := 951) (by decide +kernel), List.mem_of_getElem? (i := 1278) (by decide +kernel), List.mem_of_getElem? (i := 1279) (by decide +kernel)⟩
theorem lw_p58 : lw_okq (⟨"ThirdAfterModel", "laysBack", "([II)V"⟩, 54) := ⟨⟨by decide +kernel, by decide +kernel⟩, List.mem_of_getElem? (i := 951) (by decide +kernel), List.mem_of_getElem? (i := 1286) (by decide +kernel), List.mem_of_getElem? (i := 1287) (by decide +kernel)⟩
theorem lw_p59 : lw_okq (⟨"ThirdAfterModel", "ends", "()V"⟩, 54) := ⟨⟨by decide +kernel, by decide +kernel⟩, List.mem_of_getElem? (i := 951) (by decide +kernel), List.mem_of_getElem? (i := 1298) (by decide +kernel), List.mem_of_getElem? (i := 1299) (by decide +kernel)⟩
theorem lw_p60 : lw_okq (⟨"ThirdAfterModel", "puts", "(II)V"⟩, 54) := ⟨⟨by decide +kernel, by decide +kernel⟩, List.mem_of_getElem? (i := 951) (by decide +kernel), List.mem_of_getElem? (i := 1306) (by decide +kernel), List.mem_of_getElem? (i := 1307) (by decide +kernel)⟩
theorem lw_p61 : lw_okq (⟨"ThirdAfterModel", "purseBehind", "(I)I"⟩, 54) := ⟨⟨by decide +kernel, by decide +kernel⟩, List.mem_of_getElem? (i := 951) (by decide +kernel), List.mem_of_getElem? (i := 1310) (by decide +kernel), List.mem_of_getElem? (i := 1311) (by decide +kernel)⟩
theorem lw_p62 : lw_okq (⟨"ThirdAfterModel", "takes", "(I)V"⟩, 54) := ⟨⟨by decide +kernel, by decide +kernel⟩, List.mem_of_getElem? (i := 951) (by decide +kernel), List.mem_of_getElem? (i := 1314) (by decide +kernel), List.mem_of_getElem? (i := 1315) (by decide +kernel)⟩
theorem lw_p63 : lw_okq (⟨"ThirdAfterModel", "swaps", "(I)V"⟩, 54) := ⟨⟨by decide +kernel, by decide +kernel⟩, List.mem_of_getElem? (i := 951) (by decide +kernel), List.mem_of_getElem? (i := 1326) (by decide +kernel), List.mem_of_getElem? (i := 1327) (by decide +kernel)⟩
def lw_privs_4 : List (MethodName × Nat) := [(⟨"ThirdAfterModel", "noBytes", "(I)I"⟩, 54), (⟨"ThirdAfterModel", "reads", "(I)V"⟩, 54), (⟨"ThirdAfterModel", "begins", "()V"⟩, 54), (⟨"ThirdAfterModel", "keeps", "([II)V"⟩, 54), (⟨"ThirdAfterModel", "goes", "()V"⟩, 54), (⟨"ThirdAfterModel", "goesIn", "(I)Z"⟩, 54), (⟨"ThirdAfterModel", "pays", "(I)V"⟩, 54), (⟨"ThirdAfterModel", "buysFor", "(II)I"⟩, 54), (⟨"ThirdAfterModel", "byLaw", "(I)I"⟩, 54), (⟨"ThirdAfterModel", "worked", "(II)I"⟩, 54), (⟨"ThirdAfterModel", "laysBack", "([II)V"⟩, 54), (⟨"ThirdAfterModel", "ends", "()V"⟩, 54), (⟨"ThirdAfterModel", "puts", "(II)V"⟩, 54), (⟨"ThirdAfterModel", "purseBehind", "(I)I"⟩, 54), (⟨"ThirdAfterModel", "takes", "(I)V"⟩, 54), (⟨"ThirdAfterModel", "swaps", "(I)V"⟩, 54)]
theorem lw_r4 : ∀ q ∈ lw_privs_4, lw_okq q := List.forall_mem_cons.mpr ⟨lw_p48, List.forall_mem_cons.mpr ⟨lw_p49, List.forall_mem_cons.mpr ⟨lw_p50, List.forall_mem_cons.mpr ⟨lw_p51, List.forall_mem_cons.mpr ⟨lw_p52, List.forall_mem_cons.mpr ⟨lw_p53, List.forall_mem_cons.mpr ⟨lw_p54, List.forall_mem_cons.mpr ⟨lw_p55, List.forall_mem_cons.mpr ⟨lw_p56, List.forall_mem_cons.mpr ⟨lw_p57, List.forall_mem_cons.mpr ⟨lw_p58, List.forall_mem_cons.mpr ⟨lw_p59, List.forall_mem_cons.mpr ⟨lw_p60, List.forall_mem_cons.mpr ⟨lw_p61, List.forall_mem_cons.mpr ⟨lw_p62, List.forall_mem_cons.mpr ⟨lw_p63, fun _ h => absurd h List.not_mem_nil⟩⟩⟩⟩⟩⟩⟩⟩⟩⟩⟩⟩⟩⟩⟩⟩
theorem lw_p64 : lw_okq (⟨"ThirdAfterModel", "orders", "(III)V"⟩, 54) := ⟨⟨by decide +kernel, by decide +kernel⟩, List.mem_of_getElem? (i := 951) (by decide +kernel), List.mem_of_getElem? (i := 1335) (by decide +kernel), List.mem_of_getElem? (i := 1336) (by decide +kernel)⟩
theorem lw_p65 : lw_okq (⟨"ThirdAfterModel", "isPair", "(I)Z"⟩, 54) := ⟨⟨by decide +kernel, by decide +kernel⟩, List.mem_of_getElem? (i := 951) (by decide +kernel), List.mem_of_getElem? (i := 1343) (by decide +kernel), List.mem_of_getElem? (i := 1344) (by decide +kernel)⟩
theorem lw_p66 : lw_okq (⟨"ThirdAfterModel", "ring", "()I"⟩, 54) := ⟨⟨by decide +kernel, by decide +kernel⟩, List.mem_of_getElem? (i := 951) (by decide +kernel), List.mem_of_getElem? (i := 1351) (by decide +kernel), List.mem_of_getElem? (i := 1352) (by decide +kernel)⟩
theorem lw_p67 : lw_okq (⟨"ThirdAfterModel", "areShelves", "(I)Z"⟩, 54) := ⟨⟨by decide +kernel, by decide +kernel⟩, List.mem_of_getElem? (i := 951) (by decide +kernel), List.mem_of_getElem? (i := 1359) (by decide +kernel), List.mem_of_getElem? (i := 1360) (by decide +kernel)⟩
theorem lw_p68 : lw_okq (⟨"ThirdAfterModel", "noRows", "(I)I"⟩, 54) := ⟨⟨by decide +kernel, by decide +kernel⟩, List.mem_of_getElem? (i := 951) (by decide +kernel), List.mem_of_getElem? (i := 1363) (by decide +kernel), List.mem_of_getElem? (i := 1364) (by decide +kernel)⟩
theorem lw_p69 : lw_okq (⟨"ThirdAfterModel", "unlike", "(I)I"⟩, 54) := ⟨⟨by decide +kernel, by decide +kernel⟩, List.mem_of_getElem? (i := 951) (by decide +kernel), List.mem_of_getElem? (i := 1367) (by decide +kernel), List.mem_of_getElem? (i := 1368) (by decide +kernel)⟩
theorem lw_p70 : lw_okq (⟨"ThirdAfterModel", "thirds", "(I)I"⟩, 54) := ⟨⟨by decide +kernel, by decide +kernel⟩, List.mem_of_getElem? (i := 951) (by decide +kernel), List.mem_of_getElem? (i := 1375) (by decide +kernel), List.mem_of_getElem? (i := 1376) (by decide +kernel)⟩
theorem lw_p71 : lw_okq (⟨"ThirdAfterModel", "whose", "(II)I"⟩, 54) := ⟨⟨by decide +kernel, by decide +kernel⟩, List.mem_of_getElem? (i := 951) (by decide +kernel), List.mem_of_getElem? (i := 1379) (by decide +kernel), List.mem_of_getElem? (i := 1380) (by decide +kernel)⟩
theorem lw_p72 : lw_okq (⟨"ThirdAfterModel", "wanted", "(IIZ)I"⟩, 54) := ⟨⟨by decide +kernel, by decide +kernel⟩, List.mem_of_getElem? (i := 951) (by decide +kernel), List.mem_of_getElem? (i := 1383) (by decide +kernel), List.mem_of_getElem? (i := 1384) (by decide +kernel)⟩
theorem lw_p73 : lw_okq (⟨"ThirdAfterModel", "turnFrom", "(IIII)I"⟩, 54) := ⟨⟨by decide +kernel, by decide +kernel⟩, List.mem_of_getElem? (i := 951) (by decide +kernel), List.mem_of_getElem? (i := 1392) (by decide +kernel), List.mem_of_getElem? (i := 1393) (by decide +kernel)⟩
theorem lw_p74 : lw_okq (⟨"ThirdAfterModel", "comesAt", "(IIII)I"⟩, 54) := ⟨⟨by decide +kernel, by decide +kernel⟩, List.mem_of_getElem? (i := 951) (by decide +kernel), List.mem_of_getElem? (i := 1396) (by decide +kernel), List.mem_of_getElem? (i := 1397) (by decide +kernel)⟩
theorem lw_p75 : lw_okq (⟨"ThirdAfterModel", "comesBy", "(III)I"⟩, 54) := ⟨⟨by decide +kernel, by decide +kernel⟩, List.mem_of_getElem? (i := 951) (by decide +kernel), List.mem_of_getElem? (i := 1437) (by decide +kernel), List.mem_of_getElem? (i := 1438) (by decide +kernel)⟩
theorem lw_p76 : lw_okq (⟨"ThirdAfterModel", "ran", "(I)V"⟩, 54) := ⟨⟨by decide +kernel, by decide +kernel⟩, List.mem_of_getElem? (i := 951) (by decide +kernel), List.mem_of_getElem? (i := 1441) (by decide +kernel), List.mem_of_getElem? (i := 1442) (by decide +kernel)⟩
theorem lw_p77 : lw_okq (⟨"ThirdAfterModel", "owesBy", "(III)I"⟩, 54) := ⟨⟨by decide +kernel, by decide +kernel⟩, List.mem_of_getElem? (i := 951) (by decide +kernel), List.mem_of_getElem? (i := 1448) (by decide +kernel), List.mem_of_getElem? (i := 1449) (by decide +kernel)⟩
theorem lw_p78 : lw_okq (⟨"ThirdAfterModel", "paysBy", "(III)I"⟩, 54) := ⟨⟨by decide +kernel, by decide +kernel⟩, List.mem_of_getElem? (i := 951) (by decide +kernel), List.mem_of_getElem? (i := 1452) (by decide +kernel), List.mem_of_getElem? (i := 1453) (by decide +kernel)⟩
theorem lw_p79 : lw_okq (⟨"ThirdAfterModel", "tells", "(III)I"⟩, 54) := ⟨⟨by decide +kernel, by decide +kernel⟩, List.mem_of_getElem? (i := 951) (by decide +kernel), List.mem_of_getElem? (i := 1456) (by decide +kernel), List.mem_of_getElem? (i := 1457) (by decide +kernel)⟩
def lw_privs_5 : List (MethodName × Nat) := [(⟨"ThirdAfterModel", "orders", "(III)V"⟩, 54), (⟨"ThirdAfterModel", "isPair", "(I)Z"⟩, 54), (⟨"ThirdAfterModel", "ring", "()I"⟩, 54), (⟨"ThirdAfterModel", "areShelves", "(I)Z"⟩, 54), (⟨"ThirdAfterModel", "noRows", "(I)I"⟩, 54), (⟨"ThirdAfterModel", "unlike", "(I)I"⟩, 54), (⟨"ThirdAfterModel", "thirds", "(I)I"⟩, 54), (⟨"ThirdAfterModel", "whose", "(II)I"⟩, 54), (⟨"ThirdAfterModel", "wanted", "(IIZ)I"⟩, 54), (⟨"ThirdAfterModel", "turnFrom", "(IIII)I"⟩, 54), (⟨"ThirdAfterModel", "comesAt", "(IIII)I"⟩, 54), (⟨"ThirdAfterModel", "comesBy", "(III)I"⟩, 54), (⟨"ThirdAfterModel", "ran", "(I)V"⟩, 54), (⟨"ThirdAfterModel", "owesBy", "(III)I"⟩, 54), (⟨"ThirdAfterModel", "paysBy", "(III)I"⟩, 54), (⟨"ThirdAfterModel", "tells", "(III)I"⟩, 54)]
theorem lw_r5 : ∀ q ∈ lw_privs_5, lw_okq q := List.forall_mem_cons.mpr ⟨lw_p64, List.forall_mem_cons.mpr ⟨lw_p65, List.forall_mem_cons.mpr ⟨lw_p66, List.forall_mem_cons.mpr ⟨lw_p67, List.forall_mem_cons.mpr ⟨lw_p68, List.forall_mem_cons.mpr ⟨lw_p69, List.forall_mem_cons.mpr ⟨lw_p70, List.forall_mem_cons.mpr ⟨lw_p71, List.forall_mem_cons.mpr ⟨lw_p72, List.forall_mem_cons.mpr ⟨lw_p73, List.forall_mem_cons.mpr ⟨lw_p74, List.forall_mem_cons.mpr ⟨lw_p75, List.forall_mem_cons.mpr ⟨lw_p76, List.forall_mem_cons.mpr ⟨lw_p77, List.forall_mem_cons.mpr ⟨lw_p78, List.forall_mem_cons.mpr ⟨lw_p79, fun _ h => absurd h List.not_mem_nil⟩⟩⟩⟩⟩⟩⟩⟩⟩⟩⟩⟩⟩⟩⟩⟩
theorem lw_p80 : lw_okq (⟨"ThirdAfterModel", "isRow", "(I)Z"⟩, 54) := ⟨⟨by decide +kernel, by decide +kernel⟩, List.mem_of_getElem? (i := 951) (by decide +kernel), List.mem_of_getElem? (i := 1476) (by decide +kernel), List.mem_of_getElem? (i := 1477) (by decide +kernel)⟩
def lw_privs_6 : List (MethodName × Nat) := [(⟨"ThirdAfterModel", "isRow", "(I)Z"⟩, 54)]
theorem lw_r6 : ∀ q ∈ lw_privs_6, lw_okq q := List.forall_mem_cons.mpr ⟨lw_p80, fun _ h => absurd h List.not_mem_nil⟩
def lw_privs : List (MethodName × Nat) := lw_privs_1 ++ (lw_privs_2 ++ (lw_privs_3 ++ (lw_privs_4 ++ (lw_privs_5 ++ (lw_privs_6)))))
def lw_tbl : List Cond := k2_sels lw_privs ++ tables_1
theorem lw_privs_ok : ∀ q ∈ lw_privs, lw_okq q := by
  show ∀ q ∈ lw_privs_1 ++ (lw_privs_2 ++ (lw_privs_3 ++ (lw_privs_4 ++ (lw_privs_5 ++ (lw_privs_6))))), lw_okq q
  exact List.forall_mem_append.mpr ⟨lw_r1, List.forall_mem_append.mpr ⟨lw_r2, List.forall_mem_append.mpr ⟨lw_r3, List.forall_mem_append.mpr ⟨lw_r4, List.forall_mem_append.mpr ⟨lw_r5, lw_r6⟩⟩⟩⟩⟩

/-! ===== BEGIN printed: names, fields, word lists, decode rows ===== -/
def RX0 : String := "ThirdAfter$Book"
def TX0 : u_T := fun k => match k with
  | 0 => ("ThirdAfter$Book", "who", "[I", true)
  | 1 => ("ThirdAfter$Book", "much", "[I", true)
  | _ => ("ThirdAfter$Book", "open", "I", false)
def tyX0 : Nat → FieldType := fun k => match k with
  | 0 => .array .int
  | 1 => .array .int
  | _ => .int
theorem nmX0 : ∀ a, a < 3 → ∀ b, b < 3 → a ≠ b → (TX0 a).2.1 ≠ (TX0 b).2.1 := by decide +kernel
theorem tyX0_ok : ∀ k, k < 3 → parseFieldDescriptor (TX0 k).2.2.1 = some (tyX0 k) := by decide +kernel
def yX0_init : MethodName := ⟨RX0, "<init>", "()V"⟩
def yX0_add : MethodName := ⟨RX0, "add", "(II)V"⟩
def yX0_dropOldest : MethodName := ⟨RX0, "dropOldest", "()V"⟩
def yX0_become : MethodName := ⟨RX0, "become", "(LThirdAfter$Book;)V"⟩
def RX1 : String := "ThirdAfter$Changes"
def TX1 : u_T := fun k => match k with
  | 0 => ("ThirdAfter$Changes", "number", "[I", true)
  | 1 => ("ThirdAfter$Changes", "what", "[I", true)
  | 2 => ("ThirdAfter$Changes", "before", "[I", true)
  | 3 => ("ThirdAfter$Changes", "after", "[I", true)
  | 4 => ("ThirdAfter$Changes", "kept", "I", false)
  | _ => ("ThirdAfter$Changes", "done", "I", false)
def tyX1 : Nat → FieldType := fun k => match k with
  | 0 => .array .int
  | 1 => .array .int
  | 2 => .array .int
  | 3 => .array .int
  | 4 => .int
  | _ => .int
theorem nmX1 : ∀ a, a < 6 → ∀ b, b < 6 → a ≠ b → (TX1 a).2.1 ≠ (TX1 b).2.1 := by decide +kernel
theorem tyX1_ok : ∀ k, k < 6 → parseFieldDescriptor (TX1 k).2.2.1 = some (tyX1 k) := by decide +kernel
def yX1_init : MethodName := ⟨RX1, "<init>", "()V"⟩
def yX1_add : MethodName := ⟨RX1, "add", "(IIII)V"⟩
def yX1_forgetOldest : MethodName := ⟨RX1, "forgetOldest", "()V"⟩
def RX2 : String := "ThirdAfter$Latches"
def TX2 : u_T := fun k => match k with
  | 0 => ("ThirdAfter$Latches", "kinds", "[I", true)
  | 1 => ("ThirdAfter$Latches", "count", "I", false)
  | 2 => ("ThirdAfter$Latches", "trace", "[I", true)
  | _ => ("ThirdAfter$Latches", "ran", "I", false)
def tyX2 : Nat → FieldType := fun k => match k with
  | 0 => .array .int
  | 1 => .int
  | 2 => .array .int
  | _ => .int
theorem nmX2 : ∀ a, a < 4 → ∀ b, b < 4 → a ≠ b → (TX2 a).2.1 ≠ (TX2 b).2.1 := by decide +kernel
theorem tyX2_ok : ∀ k, k < 4 → parseFieldDescriptor (TX2 k).2.2.1 = some (tyX2 k) := by decide +kernel
def yX2_init : MethodName := ⟨RX2, "<init>", "()V"⟩
def yX2_isThere : MethodName := ⟨RX2, "isThere", "(I)Z"⟩
def yX2_add : MethodName := ⟨RX2, "add", "(I)I"⟩
def yX2_isUnder : MethodName := ⟨RX2, "isUnder", "(II)Z"⟩
def yX2_kindWithBody : MethodName := ⟨RX2, "kindWithBody", "(II)I"⟩
def yX2_perform : MethodName := ⟨RX2, "perform", "(III)I"⟩
def yX2_run : MethodName := ⟨RX2, "run", "(IIIII)I"⟩
def yX2_runTopmost : MethodName := ⟨RX2, "runTopmost", "(IIII)I"⟩
def RX3 : String := "ThirdAfter$Law"
def TX3 : u_T := fun k => match k with
  | 0 => ("ThirdAfter$Law", "told", "Z", false)
  | 1 => ("ThirdAfter$Law", "step", "[I", true)
  | 2 => ("ThirdAfter$Law", "with", "[I", true)
  | 3 => ("ThirdAfter$Law", "length", "I", false)
  | 4 => ("ThirdAfter$Law", "stack", "[I", true)
  | _ => ("ThirdAfter$Law", "height", "I", false)
def tyX3 : Nat → FieldType := fun k => match k with
  | 0 => .boolean
  | 1 => .array .int
  | 2 => .array .int
  | 3 => .int
  | 4 => .array .int
  | _ => .int
theorem nmX3 : ∀ a, a < 6 → ∀ b, b < 6 → a ≠ b → (TX3 a).2.1 ≠ (TX3 b).2.1 := by decide +kernel
theorem tyX3_ok : ∀ k, k < 6 → parseFieldDescriptor (TX3 k).2.2.1 = some (tyX3 k) := by decide +kernel
def yX3_init : MethodName := ⟨RX3, "<init>", "()V"⟩
def yX3_clear : MethodName := ⟨RX3, "clear", "()V"⟩
def yX3_add : MethodName := ⟨RX3, "add", "(II)I"⟩
def yX3_aimAtNext : MethodName := ⟨RX3, "aimAtNext", "(I)V"⟩
def yX3_push : MethodName := ⟨RX3, "push", "(I)V"⟩
def yX3_pop : MethodName := ⟨RX3, "pop", "()I"⟩
def yX3_value : MethodName := ⟨RX3, "value", "([I)I"⟩
def yX3_joined : MethodName := ⟨RX3, "joined", "(III)I"⟩
def RX4 : String := "ThirdAfter$Market"
def TX4 : u_T := fun k => match k with
  | 0 => ("ThirdAfter$Market", "count", "I", false)
  | 1 => ("ThirdAfter$Market", "purse", "[I", true)
  | 2 => ("ThirdAfter$Market", "wants", "[I", true)
  | 3 => ("ThirdAfter$Market", "haste", "[I", true)
  | 4 => ("ThirdAfter$Market", "dog", "[I", true)
  | 5 => ("ThirdAfter$Market", "often", "[I", true)
  | 6 => ("ThirdAfter$Market", "third", "I", false)
  | 7 => ("ThirdAfter$Market", "dogs", "I", false)
  | 8 => ("ThirdAfter$Market", "day", "I", false)
  | 9 => ("ThirdAfter$Market", "came", "I", false)
  | 10 => ("ThirdAfter$Market", "book", "LThirdAfter$Book;", true)
  | 11 => ("ThirdAfter$Market", "law", "LThirdAfter$Law;", false)
  | 12 => ("ThirdAfter$Market", "led", "[I", true)
  | 13 => ("ThirdAfter$Market", "flow", "[[I", true)
  | 14 => ("ThirdAfter$Market", "payer", "I", false)
  | 15 => ("ThirdAfter$Market", "paid", "I", false)
  | 16 => ("ThirdAfter$Market", "bought", "I", false)
  | _ => ("ThirdAfter$Market", "names", "[I", true)
def tyX4 : Nat → FieldType := fun k => match k with
  | 0 => .int
  | 1 => .array .int
  | 2 => .array .int
  | 3 => .array .int
  | 4 => .array .int
  | 5 => .array .int
  | 6 => .int
  | 7 => .int
  | 8 => .int
  | 9 => .int
  | 10 => .object "ThirdAfter$Book"
  | 11 => .object "ThirdAfter$Law"
  | 12 => .array .int
  | 13 => .array (.array .int)
  | 14 => .int
  | 15 => .int
  | 16 => .int
  | _ => .array .int
theorem nmX4 : ∀ a, a < 18 → ∀ b, b < 18 → a ≠ b → (TX4 a).2.1 ≠ (TX4 b).2.1 := by decide +kernel
theorem tyX4_ok : ∀ k, k < 18 → parseFieldDescriptor (TX4 k).2.2.1 = some (tyX4 k) := by decide +kernel
def yX4_init : MethodName := ⟨RX4, "<init>", "()V"⟩
def yX4_has : MethodName := ⟨RX4, "has", "(I)Z"⟩
def yX4_add : MethodName := ⟨RX4, "add", "(III)I"⟩
def yX4_column : MethodName := ⟨RX4, "column", "(I)[I"⟩
def yX4_number : MethodName := ⟨RX4, "number", "(II)I"⟩
def yX4_setNumber : MethodName := ⟨RX4, "setNumber", "(III)V"⟩
def yX4_comesIn : MethodName := ⟨RX4, "comesIn", "(I)I"⟩
def yX4_payOldestTo : MethodName := ⟨RX4, "payOldestTo", "(I)V"⟩
def yX4_buysFor : MethodName := ⟨RX4, "buysFor", "(II)I"⟩
def yX4_dusk : MethodName := ⟨RX4, "dusk", "()V"⟩
def yX4_takeDeeds : MethodName := ⟨RX4, "takeDeeds", "(LThirdAfter$Market;I)V"⟩
def yX4_become : MethodName := ⟨RX4, "become", "(LThirdAfter$Market;)V"⟩
def RX5 : String := "ThirdAfter$Shelf"
def TX5 : u_T := fun k => match k with
  | 0 => ("ThirdAfter$Shelf", "holds", "I", false)
  | 1 => ("ThirdAfter$Shelf", "body", "I", false)
  | 2 => ("ThirdAfter$Shelf", "sort", "I", false)
  | 3 => ("ThirdAfter$Shelf", "length", "I", false)
  | _ => ("ThirdAfter$Shelf", "cells", "[J", true)
def tyX5 : Nat → FieldType := fun k => match k with
  | 0 => .int
  | 1 => .int
  | 2 => .int
  | 3 => .int
  | _ => .array .long
theorem nmX5 : ∀ a, a < 5 → ∀ b, b < 5 → a ≠ b → (TX5 a).2.1 ≠ (TX5 b).2.1 := by decide +kernel
theorem tyX5_ok : ∀ k, k < 5 → parseFieldDescriptor (TX5 k).2.2.1 = some (tyX5 k) := by decide +kernel
def yX5_init : MethodName := ⟨RX5, "<init>", "()V"⟩
def yX5_isRowOf : MethodName := ⟨RX5, "isRowOf", "(I)Z"⟩
def yX5_hasCells : MethodName := ⟨RX5, "hasCells", "(II)Z"⟩
def yX5_holdLatch : MethodName := ⟨RX5, "holdLatch", "(I)V"⟩
def yX5_holdRow : MethodName := ⟨RX5, "holdRow", "(II)V"⟩
def yX5_narrowed : MethodName := ⟨RX5, "narrowed", "(J)J"⟩
def RX6 : String := "ThirdAfter$Tape"
def TX6 : u_T := fun k => match k with
  | 0 => ("ThirdAfter$Tape", "text", "[I", true)
  | 1 => ("ThirdAfter$Tape", "length", "I", false)
  | 2 => ("ThirdAfter$Tape", "at", "I", false)
  | 3 => ("ThirdAfter$Tape", "faulty", "Z", false)
  | _ => ("ThirdAfter$Tape", "law", "LThirdAfter$Law;", false)
def tyX6 : Nat → FieldType := fun k => match k with
  | 0 => .array .int
  | 1 => .int
  | 2 => .int
  | 3 => .boolean
  | _ => .object "ThirdAfter$Law"
theorem nmX6 : ∀ a, a < 5 → ∀ b, b < 5 → a ≠ b → (TX6 a).2.1 ≠ (TX6 b).2.1 := by decide +kernel
theorem tyX6_ok : ∀ k, k < 5 → parseFieldDescriptor (TX6 k).2.2.1 = some (tyX6 k) := by decide +kernel
def yX6_init : MethodName := ⟨RX6, "<init>", "()V"⟩
def yX6_add : MethodName := ⟨RX6, "add", "(I)I"⟩
def yX6_exchange : MethodName := ⟨RX6, "exchange", "(LThirdAfter$Law;)LThirdAfter$Law;"⟩
def yX6_read : MethodName := ⟨RX6, "read", "()I"⟩
def yX6_here : MethodName := ⟨RX6, "here", "()I"⟩
def yX6_take : MethodName := ⟨RX6, "take", "(I)Z"⟩
def yX6_takeOf : MethodName := ⟨RX6, "takeOf", "(Ljava/lang/String;)I"⟩
def yX6_readLine : MethodName := ⟨RX6, "readLine", "()V"⟩
def yX6_readEither : MethodName := ⟨RX6, "readEither", "(I)V"⟩
def yX6_readBoth : MethodName := ⟨RX6, "readBoth", "(I)V"⟩
def yX6_readCompared : MethodName := ⟨RX6, "readCompared", "(I)V"⟩
def yX6_readSum : MethodName := ⟨RX6, "readSum", "(I)V"⟩
def yX6_readProduct : MethodName := ⟨RX6, "readProduct", "(I)V"⟩
def yX6_readPart : MethodName := ⟨RX6, "readPart", "(I)V"⟩
def yX6_readNumber : MethodName := ⟨RX6, "readNumber", "()V"⟩
def yX6_isDigit : MethodName := ⟨RX6, "isDigit", "(I)Z"⟩
def RX7 : String := "ThirdAfter$Thought"
def TX7 : u_T := fun k => match k with
  | 0 => ("ThirdAfter$Thought", "market", "LThirdAfter$Market;", true)
  | 1 => ("ThirdAfter$Thought", "comings", "[I", true)
  | 2 => ("ThirdAfter$Thought", "length", "I", false)
  | 3 => ("ThirdAfter$Thought", "payers", "[I", true)
  | 4 => ("ThirdAfter$Thought", "paid", "[I", true)
  | 5 => ("ThirdAfter$Thought", "bought", "[I", true)
  | 6 => ("ThirdAfter$Thought", "most", "I", false)
  | 7 => ("ThirdAfter$Thought", "ordered", "[I", true)
  | 8 => ("ThirdAfter$Thought", "outcomes", "[I", true)
  | _ => ("ThirdAfter$Thought", "steps", "[[I", true)
def tyX7 : Nat → FieldType := fun k => match k with
  | 0 => .object "ThirdAfter$Market"
  | 1 => .array .int
  | 2 => .int
  | 3 => .array .int
  | 4 => .array .int
  | 5 => .array .int
  | 6 => .int
  | 7 => .array .int
  | 8 => .array .int
  | _ => .array (.array .int)
theorem nmX7 : ∀ a, a < 10 → ∀ b, b < 10 → a ≠ b → (TX7 a).2.1 ≠ (TX7 b).2.1 := by decide +kernel
theorem tyX7_ok : ∀ k, k < 10 → parseFieldDescriptor (TX7 k).2.2.1 = some (tyX7 k) := by decide +kernel
def yX7_init : MethodName := ⟨RX7, "<init>", "()V"⟩
def yX7_read : MethodName := ⟨RX7, "read", "(LThirdAfter$Shelf;I)V"⟩
def yX7_runFrom : MethodName := ⟨RX7, "runFrom", "(LThirdAfter$Market;)V"⟩
def yX7_run : MethodName := ⟨RX7, "run", "()V"⟩
def yX7_runDays : MethodName := ⟨RX7, "runDays", "(LThirdAfter$Market;I)V"⟩
def yX7_purseOrLacking : MethodName := ⟨RX7, "purseOrLacking", "(I)I"⟩
def yX7_purseBehind : MethodName := ⟨RX7, "purseBehind", "(LThirdAfter$Market;I)I"⟩
def yX7_swap : MethodName := ⟨RX7, "swap", "(II)V"⟩
def yX7_insert : MethodName := ⟨RX7, "insert", "(II)V"⟩
def yX7_bestPlace : MethodName := ⟨RX7, "bestPlace", "(LThirdAfter$Market;I)I"⟩
def yX7_bestHired : MethodName := ⟨RX7, "bestHired", "(LThirdAfter$Market;II)I"⟩
def yX7_bestChanged : MethodName := ⟨RX7, "bestChanged", "(LThirdAfter$Market;I)I"⟩
def yX7_findBestOrder : MethodName := ⟨RX7, "findBestOrder", "(LThirdAfter$Market;II)V"⟩
def yX7_goToNextOrder : MethodName := ⟨RX7, "goToNextOrder", "()Z"⟩
def yX7_smallestRing : MethodName := ⟨RX7, "smallestRing", "()I"⟩
def yX7_whoGainsMost : MethodName := ⟨RX7, "whoGainsMost", "(LThirdAfter$Market;)I"⟩
def yX7_firstUnlike : MethodName := ⟨RX7, "firstUnlike", "(LThirdAfter$Shelf;)I"⟩
def yX7_thirdsThatFit : MethodName := ⟨RX7, "thirdsThatFit", "(LThirdAfter$Market;LThirdAfter$Shelf;)I"⟩
def yX7_buyersThatFit : MethodName := ⟨RX7, "buyersThatFit", "(LThirdAfter$Market;LThirdAfter$Shelf;I)I"⟩
def yX7_wantsThatFit : MethodName := ⟨RX7, "wantsThatFit", "(LThirdAfter$Market;LThirdAfter$Shelf;I)I"⟩
def yX7_playTurns : MethodName := ⟨RX7, "playTurns", "(LThirdAfter$Market;III)V"⟩
def yX7_draw : MethodName := ⟨RX7, "draw", "(LThirdAfter$Market;III)I"⟩
def RX8 : String := "ThirdAfter"
def TX8 : u_T := fun k => match k with
  | 0 => ("ThirdAfter", "now", "LThirdAfter$Market;", true)
  | 1 => ("ThirdAfter", "image", "LThirdAfter$Market;", true)
  | 2 => ("ThirdAfter", "imaged", "Z", false)
  | 3 => ("ThirdAfter", "thought", "LThirdAfter$Thought;", true)
  | 4 => ("ThirdAfter", "changes", "LThirdAfter$Changes;", true)
  | 5 => ("ThirdAfter", "latches", "LThirdAfter$Latches;", true)
  | 6 => ("ThirdAfter", "shelves", "[LThirdAfter$Shelf;", true)
  | _ => ("ThirdAfter", "tape", "LThirdAfter$Tape;", true)
def tyX8 : Nat → FieldType := fun k => match k with
  | 0 => .object "ThirdAfter$Market"
  | 1 => .object "ThirdAfter$Market"
  | 2 => .boolean
  | 3 => .object "ThirdAfter$Thought"
  | 4 => .object "ThirdAfter$Changes"
  | 5 => .object "ThirdAfter$Latches"
  | 6 => .array (.object "ThirdAfter$Shelf")
  | _ => .object "ThirdAfter$Tape"
theorem nmX8 : ∀ a, a < 8 → ∀ b, b < 8 → a ≠ b → (TX8 a).2.1 ≠ (TX8 b).2.1 := by decide +kernel
theorem tyX8_ok : ∀ k, k < 8 → parseFieldDescriptor (TX8 k).2.2.1 = some (tyX8 k) := by decide +kernel
def yX8_init : MethodName := ⟨RX8, "<init>", "()V"⟩
def yX8_buyer : MethodName := ⟨RX8, "buyer", "(II)I"⟩
def yX8_buyers : MethodName := ⟨RX8, "buyers", "(III)I"⟩
def yX8_addFromThree : MethodName := ⟨RX8, "addFromThree", "(LThirdAfter$Shelf;I)Z"⟩
def yX8_mend : MethodName := ⟨RX8, "mend", "(III)I"⟩
def yX8_of : MethodName := ⟨RX8, "of", "(II)I"⟩
def yX8_feed : MethodName := ⟨RX8, "feed", "(I)I"⟩
def yX8_law : MethodName := ⟨RX8, "law", "()I"⟩
def yX8_book : MethodName := ⟨RX8, "book", "(II)I"⟩
def yX8_market : MethodName := ⟨RX8, "market", "(III)I"⟩
def yX8_coming : MethodName := ⟨RX8, "coming", "(III)I"⟩
def yX8_later : MethodName := ⟨RX8, "later", "(III)I"⟩
def yX8_onceMore : MethodName := ⟨RX8, "onceMore", "(III)I"⟩
def yX8_hired : MethodName := ⟨RX8, "hired", "(IIII)I"⟩
def yX8_latch : MethodName := ⟨RX8, "latch", "(III)I"⟩
def yX8_order : MethodName := ⟨RX8, "order", "(III)I"⟩
def yX8_flow : MethodName := ⟨RX8, "flow", "(II)I"⟩
def yX8_round : MethodName := ⟨RX8, "round", "(II)I"⟩
def yX8_judge : MethodName := ⟨RX8, "judge", "(I)I"⟩
def yX8_fits : MethodName := ⟨RX8, "fits", "(III)I"⟩
def yX8_leastBit : MethodName := ⟨RX8, "leastBit", "(I)I"⟩
def yX8_byTurns : MethodName := ⟨RX8, "byTurns", "(III)I"⟩
def yX8_drawn : MethodName := ⟨RX8, "drawn", "(III)I"⟩
def yX8_comes : MethodName := ⟨RX8, "comes", "(I)I"⟩
def yX8_evening : MethodName := ⟨RX8, "evening", "()I"⟩
def yX8_gives : MethodName := ⟨RX8, "gives", "(III)I"⟩
def yX8_led : MethodName := ⟨RX8, "led", "(I)I"⟩
def yX8_image : MethodName := ⟨RX8, "image", "()I"⟩
def yX8_back : MethodName := ⟨RX8, "back", "()I"⟩
def yX8_undo : MethodName := ⟨RX8, "undo", "()I"⟩
def yX8_redo : MethodName := ⟨RX8, "redo", "()I"⟩
def yX8_body : MethodName := ⟨RX8, "body", "(I)I"⟩
def yX8_act : MethodName := ⟨RX8, "act", "(III)I"⟩
def yX8_trace : MethodName := ⟨RX8, "trace", "(I)I"⟩
def yX8_keep : MethodName := ⟨RX8, "keep", "(II)I"⟩
def yX8_row : MethodName := ⟨RX8, "row", "(III)I"⟩
def yX8_put : MethodName := ⟨RX8, "put", "(IIJ)I"⟩
def yX8_element : MethodName := ⟨RX8, "element", "(II)J"⟩
def yX8_shift : MethodName := ⟨RX8, "shift", "(IIIII)I"⟩
def yX8_taken : MethodName := ⟨RX8, "taken", "(II)I"⟩
def yX8_count : MethodName := ⟨RX8, "count", "(I)I"⟩
def yX8_within : MethodName := ⟨RX8, "within", "(III)Z"⟩
def yX8_isShelf : MethodName := ⟨RX8, "isShelf", "(I)Z"⟩
def yX8_areShelves : MethodName := ⟨RX8, "areShelves", "(I)Z"⟩
def yX8_isBuyer : MethodName := ⟨RX8, "isBuyer", "(I)Z"⟩
def yX8_isPair : MethodName := ⟨RX8, "isPair", "(I)Z"⟩
def yX8_isTold : MethodName := ⟨RX8, "isTold", "(II)Z"⟩
def yX8_isNumber : MethodName := ⟨RX8, "isNumber", "(II)Z"⟩
def yX8_refusalOfBytes : MethodName := ⟨RX8, "refusalOfBytes", "(I)I"⟩
def yX8_refusalOfCell : MethodName := ⟨RX8, "refusalOfCell", "(II)I"⟩
def yX8_plan : MethodName := ⟨RX8, "plan", "(I)I"⟩
def RX9 : String := "ThirdAfterModel"
def TX9 : u_T := fun k => match k with
  | 0 => ("ThirdAfterModel", "buyers", "I", false)
  | 1 => ("ThirdAfterModel", "ways", "[I", true)
  | 2 => ("ThirdAfterModel", "third", "I", false)
  | 3 => ("ThirdAfterModel", "dogs", "I", false)
  | 4 => ("ThirdAfterModel", "now", "[I", true)
  | 5 => ("ThirdAfterModel", "taped", "I", false)
  | 6 => ("ThirdAfterModel", "tape", "[I", true)
  | 7 => ("ThirdAfterModel", "isTold", "Z", false)
  | 8 => ("ThirdAfterModel", "lines", "I", false)
  | 9 => ("ThirdAfterModel", "asks", "[I", true)
  | 10 => ("ThirdAfterModel", "says", "[I", true)
  | 11 => ("ThirdAfterModel", "ends", "[I", true)
  | 12 => ("ThirdAfterModel", "code", "[I", true)
  | 13 => ("ThirdAfterModel", "at", "I", false)
  | 14 => ("ThirdAfterModel", "open", "I", false)
  | 15 => ("ThirdAfterModel", "coded", "I", false)
  | 16 => ("ThirdAfterModel", "newLines", "I", false)
  | 17 => ("ThirdAfterModel", "newAsks", "[I", true)
  | 18 => ("ThirdAfterModel", "newSays", "[I", true)
  | 19 => ("ThirdAfterModel", "newEnds", "[I", true)
  | 20 => ("ThirdAfterModel", "newCode", "[I", true)
  | 21 => ("ThirdAfterModel", "stack", "[I", true)
  | 22 => ("ThirdAfterModel", "names", "[I", true)
  | 23 => ("ThirdAfterModel", "led", "[I", true)
  | 24 => ("ThirdAfterModel", "imaged", "Z", false)
  | 25 => ("ThirdAfterModel", "oldBuyers", "I", false)
  | 26 => ("ThirdAfterModel", "old", "[I", true)
  | 27 => ("ThirdAfterModel", "oldLed", "[I", true)
  | 28 => ("ThirdAfterModel", "changes", "I", false)
  | 29 => ("ThirdAfterModel", "done", "I", false)
  | 30 => ("ThirdAfterModel", "changed", "[I", true)
  | 31 => ("ThirdAfterModel", "bodies", "I", false)
  | 32 => ("ThirdAfterModel", "bodyKind", "[I", true)
  | 33 => ("ThirdAfterModel", "traced", "I", false)
  | 34 => ("ThirdAfterModel", "traces", "[I", true)
  | 35 => ("ThirdAfterModel", "holding", "[I", true)
  | 36 => ("ThirdAfterModel", "rowLength", "[I", true)
  | 37 => ("ThirdAfterModel", "rowOf", "[J", true)
  | 38 => ("ThirdAfterModel", "was", "[I", true)
  | 39 => ("ThirdAfterModel", "turned", "[I", true)
  | 40 => ("ThirdAfterModel", "payer", "I", false)
  | 41 => ("ThirdAfterModel", "paid", "I", false)
  | 42 => ("ThirdAfterModel", "bought", "I", false)
  | 43 => ("ThirdAfterModel", "lacking", "I", false)
  | 44 => ("ThirdAfterModel", "flows", "[I", true)
  | 45 => ("ThirdAfterModel", "comings", "I", false)
  | 46 => ("ThirdAfterModel", "row", "[I", true)
  | 47 => ("ThirdAfterModel", "payers", "[I", true)
  | 48 => ("ThirdAfterModel", "paids", "[I", true)
  | 49 => ("ThirdAfterModel", "boughts", "[I", true)
  | 50 => ("ThirdAfterModel", "tried", "[I", true)
  | 51 => ("ThirdAfterModel", "ordered", "[I", true)
  | 52 => ("ThirdAfterModel", "best", "I", false)
  | _ => ("ThirdAfterModel", "steps", "[I", true)
def tyX9 : Nat → FieldType := fun k => match k with
  | 0 => .int
  | 1 => .array .int
  | 2 => .int
  | 3 => .int
  | 4 => .array .int
  | 5 => .int
  | 6 => .array .int
  | 7 => .boolean
  | 8 => .int
  | 9 => .array .int
  | 10 => .array .int
  | 11 => .array .int
  | 12 => .array .int
  | 13 => .int
  | 14 => .int
  | 15 => .int
  | 16 => .int
  | 17 => .array .int
  | 18 => .array .int
  | 19 => .array .int
  | 20 => .array .int
  | 21 => .array .int
  | 22 => .array .int
  | 23 => .array .int
  | 24 => .boolean
  | 25 => .int
  | 26 => .array .int
  | 27 => .array .int
  | 28 => .int
  | 29 => .int
  | 30 => .array .int
  | 31 => .int
  | 32 => .array .int
  | 33 => .int
  | 34 => .array .int
  | 35 => .array .int
  | 36 => .array .int
  | 37 => .array .long
  | 38 => .array .int
  | 39 => .array .int
  | 40 => .int
  | 41 => .int
  | 42 => .int
  | 43 => .int
  | 44 => .array .int
  | 45 => .int
  | 46 => .array .int
  | 47 => .array .int
  | 48 => .array .int
  | 49 => .array .int
  | 50 => .array .int
  | 51 => .array .int
  | 52 => .int
  | _ => .array .int
theorem nmX9 : ∀ a, a < 54 → ∀ b, b < 54 → a ≠ b → (TX9 a).2.1 ≠ (TX9 b).2.1 := by decide +kernel
theorem tyX9_ok : ∀ k, k < 54 → parseFieldDescriptor (TX9 k).2.2.1 = some (tyX9 k) := by decide +kernel
def yX9_init : MethodName := ⟨RX9, "<init>", "()V"⟩
def yX9_within : MethodName := ⟨RX9, "within", "(III)Z"⟩
def yX9_isBuyer : MethodName := ⟨RX9, "isBuyer", "(I)Z"⟩
def yX9_isShelf : MethodName := ⟨RX9, "isShelf", "(I)Z"⟩
def yX9_newBuyer : MethodName := ⟨RX9, "newBuyer", "(III)I"⟩
def yX9_buyer : MethodName := ⟨RX9, "buyer", "(II)I"⟩
def yX9_buyers : MethodName := ⟨RX9, "buyers", "(III)I"⟩
def yX9_toldAt : MethodName := ⟨RX9, "toldAt", "(II)I"⟩
def yX9_isOf : MethodName := ⟨RX9, "isOf", "(II)Z"⟩
def yX9_isFit : MethodName := ⟨RX9, "isFit", "(II)Z"⟩
def yX9_get : MethodName := ⟨RX9, "get", "(II)I"⟩
def yX9_becomes : MethodName := ⟨RX9, "becomes", "(III)V"⟩
def yX9_mend : MethodName := ⟨RX9, "mend", "(III)I"⟩
def yX9_of : MethodName := ⟨RX9, "of", "(II)I"⟩
def yX9_undo : MethodName := ⟨RX9, "undo", "()I"⟩
def yX9_redo : MethodName := ⟨RX9, "redo", "()I"⟩
def yX9_feed : MethodName := ⟨RX9, "feed", "(I)I"⟩
def yX9_sign : MethodName := ⟨RX9, "sign", "()I"⟩
def yX9_is : MethodName := ⟨RX9, "is", "(I)Z"⟩
def yX9_codes : MethodName := ⟨RX9, "codes", "(I)Z"⟩
def yX9_isDigit : MethodName := ⟨RX9, "isDigit", "()Z"⟩
def yX9_nameOf : MethodName := ⟨RX9, "nameOf", "(I)I"⟩
def yX9_isO : MethodName := ⟨RX9, "isO", "()Z"⟩
def yX9_isP : MethodName := ⟨RX9, "isP", "()Z"⟩
def yX9_isS : MethodName := ⟨RX9, "isS", "()Z"⟩
def yX9_isB : MethodName := ⟨RX9, "isB", "()Z"⟩
def yX9_isA : MethodName := ⟨RX9, "isA", "()Z"⟩
def yX9_isE : MethodName := ⟨RX9, "isE", "()Z"⟩
def yX9_isLine : MethodName := ⟨RX9, "isLine", "()Z"⟩
def yX9_law : MethodName := ⟨RX9, "law", "()I"⟩
def yX9_both : MethodName := ⟨RX9, "both", "(III)I"⟩
def yX9_worked : MethodName := ⟨RX9, "worked", "(II)I"⟩
def yX9_byLaw : MethodName := ⟨RX9, "byLaw", "(I)I"⟩
def yX9_buysFor : MethodName := ⟨RX9, "buysFor", "(II)I"⟩
def yX9_book : MethodName := ⟨RX9, "book", "(II)I"⟩
def yX9_pays : MethodName := ⟨RX9, "pays", "(I)V"⟩
def yX9_goesIn : MethodName := ⟨RX9, "goesIn", "(I)Z"⟩
def yX9_ends : MethodName := ⟨RX9, "ends", "()V"⟩
def yX9_keeps : MethodName := ⟨RX9, "keeps", "([II)V"⟩
def yX9_laysBack : MethodName := ⟨RX9, "laysBack", "([II)V"⟩
def yX9_goes : MethodName := ⟨RX9, "goes", "()V"⟩
def yX9_begins : MethodName := ⟨RX9, "begins", "()V"⟩
def yX9_purseBehind : MethodName := ⟨RX9, "purseBehind", "(I)I"⟩
def yX9_noBytes : MethodName := ⟨RX9, "noBytes", "(I)I"⟩
def yX9_reads : MethodName := ⟨RX9, "reads", "(I)V"⟩
def yX9_market : MethodName := ⟨RX9, "market", "(III)I"⟩
def yX9_coming : MethodName := ⟨RX9, "coming", "(III)I"⟩
def yX9_later : MethodName := ⟨RX9, "later", "(III)I"⟩
def yX9_puts : MethodName := ⟨RX9, "puts", "(II)V"⟩
def yX9_takes : MethodName := ⟨RX9, "takes", "(I)V"⟩
def yX9_onceMore : MethodName := ⟨RX9, "onceMore", "(III)I"⟩
def yX9_hired : MethodName := ⟨RX9, "hired", "(IIII)I"⟩
def yX9_swaps : MethodName := ⟨RX9, "swaps", "(I)V"⟩
def yX9_latch : MethodName := ⟨RX9, "latch", "(III)I"⟩
def yX9_orders : MethodName := ⟨RX9, "orders", "(III)V"⟩
def yX9_order : MethodName := ⟨RX9, "order", "(III)I"⟩
def yX9_isPair : MethodName := ⟨RX9, "isPair", "(I)Z"⟩
def yX9_flow : MethodName := ⟨RX9, "flow", "(II)I"⟩
def yX9_ring : MethodName := ⟨RX9, "ring", "()I"⟩
def yX9_round : MethodName := ⟨RX9, "round", "(II)I"⟩
def yX9_areShelves : MethodName := ⟨RX9, "areShelves", "(I)Z"⟩
def yX9_noRows : MethodName := ⟨RX9, "noRows", "(I)I"⟩
def yX9_unlike : MethodName := ⟨RX9, "unlike", "(I)I"⟩
def yX9_judge : MethodName := ⟨RX9, "judge", "(I)I"⟩
def yX9_thirds : MethodName := ⟨RX9, "thirds", "(I)I"⟩
def yX9_whose : MethodName := ⟨RX9, "whose", "(II)I"⟩
def yX9_wanted : MethodName := ⟨RX9, "wanted", "(IIZ)I"⟩
def yX9_fits : MethodName := ⟨RX9, "fits", "(III)I"⟩
def yX9_comesAt : MethodName := ⟨RX9, "comesAt", "(IIII)I"⟩
def yX9_turnFrom : MethodName := ⟨RX9, "turnFrom", "(IIII)I"⟩
def yX9_byTurns : MethodName := ⟨RX9, "byTurns", "(III)I"⟩
def yX9_drawn : MethodName := ⟨RX9, "drawn", "(III)I"⟩
def yX9_comes : MethodName := ⟨RX9, "comes", "(I)I"⟩
def yX9_evening : MethodName := ⟨RX9, "evening", "()I"⟩
def yX9_gives : MethodName := ⟨RX9, "gives", "(III)I"⟩
def yX9_led : MethodName := ⟨RX9, "led", "(I)I"⟩
def yX9_image : MethodName := ⟨RX9, "image", "()I"⟩
def yX9_back : MethodName := ⟨RX9, "back", "()I"⟩
def yX9_above : MethodName := ⟨RX9, "above", "(I)I"⟩
def yX9_ran : MethodName := ⟨RX9, "ran", "(I)V"⟩
def yX9_comesBy : MethodName := ⟨RX9, "comesBy", "(III)I"⟩
def yX9_owesBy : MethodName := ⟨RX9, "owesBy", "(III)I"⟩
def yX9_paysBy : MethodName := ⟨RX9, "paysBy", "(III)I"⟩
def yX9_tells : MethodName := ⟨RX9, "tells", "(III)I"⟩
def yX9_body : MethodName := ⟨RX9, "body", "(I)I"⟩
def yX9_act : MethodName := ⟨RX9, "act", "(III)I"⟩
def yX9_trace : MethodName := ⟨RX9, "trace", "(I)I"⟩
def yX9_keep : MethodName := ⟨RX9, "keep", "(II)I"⟩
def yX9_row : MethodName := ⟨RX9, "row", "(III)I"⟩
def yX9_isRow : MethodName := ⟨RX9, "isRow", "(I)Z"⟩
def yX9_kept : MethodName := ⟨RX9, "kept", "(IJ)J"⟩
def yX9_put : MethodName := ⟨RX9, "put", "(IIJ)I"⟩
def yX9_element : MethodName := ⟨RX9, "element", "(II)J"⟩
def yX9_shift : MethodName := ⟨RX9, "shift", "(IIIII)I"⟩
def yX9_taken : MethodName := ⟨RX9, "taken", "(II)I"⟩
def yX9_count : MethodName := ⟨RX9, "count", "(I)I"⟩
def RJ6 : String := "java/lang/Integer"
def yJ6_bitCount_0f7a4 : MethodName := ⟨RJ6, "bitCount", "(I)I"⟩
def RJ0 : String := "java/lang/String"
def yJ0_length_8abf5 : MethodName := ⟨RJ0, "length", "()I"⟩
def yJ0_indexOf_0f7a4 : MethodName := ⟨RJ0, "indexOf", "(I)I"⟩
def yJ0_indexOf_7cf53 : MethodName := ⟨RJ0, "indexOf", "(II)I"⟩
def yJ0_coder_7d493 : MethodName := ⟨RJ0, "coder", "()B"⟩
def yJ0_isLatin1_aae02 : MethodName := ⟨RJ0, "isLatin1", "()Z"⟩
def RJ1 : String := "java/lang/StringLatin1"
def yJ1_canEncode_9a6ad : MethodName := ⟨RJ1, "canEncode", "(I)Z"⟩
def yJ1_indexOf_4cfef : MethodName := ⟨RJ1, "indexOf", "([BIII)I"⟩
def yJ1_indexOfChar_4cfef : MethodName := ⟨RJ1, "indexOfChar", "([BIII)I"⟩
def RL : String := "ThirdAfterLaw"
def yL_law : MethodName := ⟨RL, "law", "([I)Z"⟩
abbrev vwCl : List vw_C := [(RX0, TX0, 3), (RX1, TX1, 6), (RX2, TX2, 4), (RX3, TX3, 6), (RX4, TX4, 18), (RX5, TX5, 5), (RX6, TX6, 5), (RX7, TX7, 10), (RX8, TX8, 8), (RX9, TX9, 54)]

