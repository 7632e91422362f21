section
-- ===== PART A: goes FIRST, ahead of the names: the tables' words, and 'selects' of the private methods out of them =====
/-- a private method of a class that the tables say can be made, by its rows of tables_1 -/
def lw_okq (q : MethodName × Nat) : Prop := (q.1.cls ≠ "java/lang/invoke/MethodHandle" ∧ q.1.cls ≠ "java/lang/invoke/VarHandle") ∧ Cond.instantiable q.1.cls q.2 ∈ tables_1 ∧ Cond.privateMethod q.1 ∈ tables_1 ∧ Cond.instanceMethod q.1 ∈ tables_1
theorem lw_p0 : lw_okq (⟨"LimitTokens$Sealer", "hashWork", "(LLimitTokens$Row;)V"⟩, 9) := ⟨⟨by decide +kernel, by decide +kernel⟩, List.mem_of_getElem? (i := 31) (by decide +kernel), List.mem_of_getElem? (i := 323) (by decide +kernel), List.mem_of_getElem? (i := 324) (by decide +kernel)⟩
theorem lw_p1 : lw_okq (⟨"LimitTokens$Sealer", "spreadWords", "(I)V"⟩, 9) := ⟨⟨by decide +kernel, by decide +kernel⟩, List.mem_of_getElem? (i := 31) (by decide +kernel), List.mem_of_getElem? (i := 335) (by decide +kernel), List.mem_of_getElem? (i := 336) (by decide +kernel)⟩
theorem lw_p2 : lw_okq (⟨"LimitTokens$Sealer", "mixWords", "()V"⟩, 9) := ⟨⟨by decide +kernel, by decide +kernel⟩, List.mem_of_getElem? (i := 31) (by decide +kernel), List.mem_of_getElem? (i := 339) (by decide +kernel), List.mem_of_getElem? (i := 340) (by decide +kernel)⟩
theorem lw_p3 : lw_okq (⟨"LimitTokens$Sealer", "startWork", "(I)V"⟩, 9) := ⟨⟨by decide +kernel, by decide +kernel⟩, List.mem_of_getElem? (i := 31) (by decide +kernel), List.mem_of_getElem? (i := 354) (by decide +kernel), List.mem_of_getElem? (i := 355) (by decide +kernel)⟩
theorem lw_p4 : lw_okq (⟨"LimitTokens", "isThere", "(I)Z"⟩, 9) := ⟨⟨by decide +kernel, by decide +kernel⟩, List.mem_of_getElem? (i := 13) (by decide +kernel), List.mem_of_getElem? (i := 378) (by decide +kernel), List.mem_of_getElem? (i := 379) (by decide +kernel)⟩
theorem lw_p5 : lw_okq (⟨"LimitTokens$Judge", "judgeTest", "(LLimitTokens$Row;)I"⟩, 2) := ⟨⟨by decide +kernel, by decide +kernel⟩, List.mem_of_getElem? (i := 93) (by decide +kernel), List.mem_of_getElem? (i := 475) (by decide +kernel), List.mem_of_getElem? (i := 476) (by decide +kernel)⟩
theorem lw_p6 : lw_okq (⟨"LimitTokens$Judge", "takeNumber", "(LLimitTokens$Row;)I"⟩, 2) := ⟨⟨by decide +kernel, by decide +kernel⟩, List.mem_of_getElem? (i := 93) (by decide +kernel), List.mem_of_getElem? (i := 480) (by decide +kernel), List.mem_of_getElem? (i := 481) (by decide +kernel)⟩
theorem lw_p7 : lw_okq (⟨"LimitTokens", "areThere", "(I)Z"⟩, 9) := ⟨⟨by decide +kernel, by decide +kernel⟩, List.mem_of_getElem? (i := 13) (by decide +kernel), List.mem_of_getElem? (i := 495) (by decide +kernel), List.mem_of_getElem? (i := 496) (by decide +kernel)⟩
theorem lw_p8 : lw_okq (⟨"LimitTokens$Prover", "walk", "(ILLimitTokens$Row;I)Z"⟩, 11) := ⟨⟨by decide +kernel, by decide +kernel⟩, List.mem_of_getElem? (i := 23) (by decide +kernel), List.mem_of_getElem? (i := 503) (by decide +kernel), List.mem_of_getElem? (i := 504) (by decide +kernel)⟩
theorem lw_p9 : lw_okq (⟨"LimitTokens$Prover", "passOthers", "(III)Z"⟩, 11) := ⟨⟨by decide +kernel, by decide +kernel⟩, List.mem_of_getElem? (i := 23) (by decide +kernel), List.mem_of_getElem? (i := 509) (by decide +kernel), List.mem_of_getElem? (i := 510) (by decide +kernel)⟩
theorem lw_p10 : lw_okq (⟨"LimitTokens$Prover", "helperNamed", "(LLimitTokens$Row;)I"⟩, 11) := ⟨⟨by decide +kernel, by decide +kernel⟩, List.mem_of_getElem? (i := 23) (by decide +kernel), List.mem_of_getElem? (i := 513) (by decide +kernel), List.mem_of_getElem? (i := 514) (by decide +kernel)⟩
theorem lw_p11 : lw_okq (⟨"LimitTokens$Prover", "stopAt", "(III)Z"⟩, 11) := ⟨⟨by decide +kernel, by decide +kernel⟩, List.mem_of_getElem? (i := 23) (by decide +kernel), List.mem_of_getElem? (i := 521) (by decide +kernel), List.mem_of_getElem? (i := 522) (by decide +kernel)⟩
theorem lw_p12 : lw_okq (⟨"LimitTokens$Prover", "passOwn", "(III)Z"⟩, 11) := ⟨⟨by decide +kernel, by decide +kernel⟩, List.mem_of_getElem? (i := 23) (by decide +kernel), List.mem_of_getElem? (i := 529) (by decide +kernel), List.mem_of_getElem? (i := 530) (by decide +kernel)⟩
theorem lw_p13 : lw_okq (⟨"LimitTokens$TapeReader", "takeMark", "(I)Z"⟩, 4) := ⟨⟨by decide +kernel, by decide +kernel⟩, List.mem_of_getElem? (i := 212) (by decide +kernel), List.mem_of_getElem? (i := 584) (by decide +kernel), List.mem_of_getElem? (i := 585) (by decide +kernel)⟩
theorem lw_p14 : lw_okq (⟨"LimitTokens$TapeReader", "stopAt", "(I)Z"⟩, 4) := ⟨⟨by decide +kernel, by decide +kernel⟩, List.mem_of_getElem? (i := 212) (by decide +kernel), List.mem_of_getElem? (i := 589) (by decide +kernel), List.mem_of_getElem? (i := 590) (by decide +kernel)⟩
theorem lw_p15 : lw_okq (⟨"LimitTokens$TapeReader", "takeBytes", "(LLimitTokens$Row;II)Z"⟩, 4) := ⟨⟨by decide +kernel, by decide +kernel⟩, List.mem_of_getElem? (i := 212) (by decide +kernel), List.mem_of_getElem? (i := 594) (by decide +kernel), List.mem_of_getElem? (i := 595) (by decide +kernel)⟩
def lw_privs_1 : List (MethodName × Nat) := [(⟨"LimitTokens$Sealer", "hashWork", "(LLimitTokens$Row;)V"⟩, 9), (⟨"LimitTokens$Sealer", "spreadWords", "(I)V"⟩, 9), (⟨"LimitTokens$Sealer", "mixWords", "()V"⟩, 9), (⟨"LimitTokens$Sealer", "startWork", "(I)V"⟩, 9), (⟨"LimitTokens", "isThere", "(I)Z"⟩, 9), (⟨"LimitTokens$Judge", "judgeTest", "(LLimitTokens$Row;)I"⟩, 2), (⟨"LimitTokens$Judge", "takeNumber", "(LLimitTokens$Row;)I"⟩, 2), (⟨"LimitTokens", "areThere", "(I)Z"⟩, 9), (⟨"LimitTokens$Prover", "walk", "(ILLimitTokens$Row;I)Z"⟩, 11), (⟨"LimitTokens$Prover", "passOthers", "(III)Z"⟩, 11), (⟨"LimitTokens$Prover", "helperNamed", "(LLimitTokens$Row;)I"⟩, 11), (⟨"LimitTokens$Prover", "stopAt", "(III)Z"⟩, 11), (⟨"LimitTokens$Prover", "passOwn", "(III)Z"⟩, 11), (⟨"LimitTokens$TapeReader", "takeMark", "(I)Z"⟩, 4), (⟨"LimitTokens$TapeReader", "stopAt", "(I)Z"⟩, 4), (⟨"LimitTokens$TapeReader", "takeBytes", "(LLimitTokens$Row;II)Z"⟩, 4)]
theorem lw_r1 : ∀ q ∈ lw_privs_1, lw_okq q := List.forall_mem_cons.mpr ⟨lw_p0, List.forall_mem_cons.mpr ⟨lw_p1, List.forall_mem_cons.mpr ⟨lw_p2, List.forall_mem_cons.mpr ⟨lw_p3, List.forall_mem_cons.mpr ⟨lw_p4, List.forall_mem_cons.mpr ⟨lw_p5, List.forall_mem_cons.mpr ⟨lw_p6, List.forall_mem_cons.mpr ⟨lw_p7, List.forall_mem_cons.mpr ⟨lw_p8, List.forall_mem_cons.mpr ⟨lw_p9, List.forall_mem_cons.mpr ⟨lw_p10, List.forall_mem_cons.mpr ⟨lw_p11, List.forall_mem_cons.mpr ⟨lw_p12, List.forall_mem_cons.mpr ⟨lw_p13, List.forall_mem_cons.mpr ⟨lw_p14, List.forall_mem_cons.mpr ⟨lw_p15, fun _ h => absurd h List.not_mem_nil⟩⟩⟩⟩⟩⟩⟩⟩⟩⟩⟩⟩⟩⟩⟩⟩
theorem lw_p16 : lw_okq (⟨"LimitTokens$TapeReader", "takeLimits", "(LLimitTokens$Token;)Z"⟩, 4) := ⟨⟨by decide +kernel, by decide +kernel⟩, List.mem_of_getElem? (i := 212) (by decide +kernel), List.mem_of_getElem? (i := 600) (by decide +kernel), List.mem_of_getElem? (i := 601) (by decide +kernel)⟩
theorem lw_p17 : lw_okq (⟨"LimitTokens$TapeReader", "takeLimit", "(LLimitTokens$Limit;)Z"⟩, 4) := ⟨⟨by decide +kernel, by decide +kernel⟩, List.mem_of_getElem? (i := 212) (by decide +kernel), List.mem_of_getElem? (i := 604) (by decide +kernel), List.mem_of_getElem? (i := 605) (by decide +kernel)⟩
theorem lw_p18 : lw_okq (⟨"LimitTokensModel", "take", "([III)V"⟩, 42) := ⟨⟨by decide +kernel, by decide +kernel⟩, List.mem_of_getElem? (i := 612) (by decide +kernel), List.mem_of_getElem? (i := 777) (by decide +kernel), List.mem_of_getElem? (i := 778) (by decide +kernel)⟩
theorem lw_p19 : lw_okq (⟨"LimitTokensModel", "hashNow", "()V"⟩, 42) := ⟨⟨by decide +kernel, by decide +kernel⟩, List.mem_of_getElem? (i := 612) (by decide +kernel), List.mem_of_getElem? (i := 781) (by decide +kernel), List.mem_of_getElem? (i := 782) (by decide +kernel)⟩
theorem lw_p20 : lw_okq (⟨"LimitTokensModel", "mix", "()V"⟩, 42) := ⟨⟨by decide +kernel, by decide +kernel⟩, List.mem_of_getElem? (i := 612) (by decide +kernel), List.mem_of_getElem? (i := 785) (by decide +kernel), List.mem_of_getElem? (i := 786) (by decide +kernel)⟩
theorem lw_p21 : lw_okq (⟨"LimitTokensModel", "keyIs", "([III)V"⟩, 42) := ⟨⟨by decide +kernel, by decide +kernel⟩, List.mem_of_getElem? (i := 612) (by decide +kernel), List.mem_of_getElem? (i := 799) (by decide +kernel), List.mem_of_getElem? (i := 800) (by decide +kernel)⟩
theorem lw_p22 : lw_okq (⟨"LimitTokensModel", "add", "([III)V"⟩, 42) := ⟨⟨by decide +kernel, by decide +kernel⟩, List.mem_of_getElem? (i := 612) (by decide +kernel), List.mem_of_getElem? (i := 803) (by decide +kernel), List.mem_of_getElem? (i := 804) (by decide +kernel)⟩
theorem lw_p23 : lw_okq (⟨"LimitTokensModel", "sealNow", "()V"⟩, 42) := ⟨⟨by decide +kernel, by decide +kernel⟩, List.mem_of_getElem? (i := 612) (by decide +kernel), List.mem_of_getElem? (i := 807) (by decide +kernel), List.mem_of_getElem? (i := 808) (by decide +kernel)⟩
theorem lw_p24 : lw_okq (⟨"LimitTokensModel", "keyed", "(I)V"⟩, 42) := ⟨⟨by decide +kernel, by decide +kernel⟩, List.mem_of_getElem? (i := 612) (by decide +kernel), List.mem_of_getElem? (i := 811) (by decide +kernel), List.mem_of_getElem? (i := 812) (by decide +kernel)⟩
theorem lw_p25 : lw_okq (⟨"LimitTokensModel", "isText", "(I)Z"⟩, 42) := ⟨⟨by decide +kernel, by decide +kernel⟩, List.mem_of_getElem? (i := 612) (by decide +kernel), List.mem_of_getElem? (i := 819) (by decide +kernel), List.mem_of_getElem? (i := 820) (by decide +kernel)⟩
theorem lw_p26 : lw_okq (⟨"LimitTokensModel", "isToken", "(I)Z"⟩, 42) := ⟨⟨by decide +kernel, by decide +kernel⟩, List.mem_of_getElem? (i := 612) (by decide +kernel), List.mem_of_getElem? (i := 827) (by decide +kernel), List.mem_of_getElem? (i := 828) (by decide +kernel)⟩
theorem lw_p27 : lw_okq (⟨"LimitTokensModel", "place", "(II)I"⟩, 42) := ⟨⟨by decide +kernel, by decide +kernel⟩, List.mem_of_getElem? (i := 612) (by decide +kernel), List.mem_of_getElem? (i := 831) (by decide +kernel), List.mem_of_getElem? (i := 832) (by decide +kernel)⟩
theorem lw_p28 : lw_okq (⟨"LimitTokensModel", "goOn", "([III)V"⟩, 42) := ⟨⟨by decide +kernel, by decide +kernel⟩, List.mem_of_getElem? (i := 612) (by decide +kernel), List.mem_of_getElem? (i := 835) (by decide +kernel), List.mem_of_getElem? (i := 836) (by decide +kernel)⟩
theorem lw_p29 : lw_okq (⟨"LimitTokensModel", "copyToken", "(II)V"⟩, 42) := ⟨⟨by decide +kernel, by decide +kernel⟩, List.mem_of_getElem? (i := 612) (by decide +kernel), List.mem_of_getElem? (i := 851) (by decide +kernel), List.mem_of_getElem? (i := 852) (by decide +kernel)⟩
theorem lw_p30 : lw_okq (⟨"LimitTokensModel", "truthOf", "([III)I"⟩, 42) := ⟨⟨by decide +kernel, by decide +kernel⟩, List.mem_of_getElem? (i := 612) (by decide +kernel), List.mem_of_getElem? (i := 880) (by decide +kernel), List.mem_of_getElem? (i := 881) (by decide +kernel)⟩
theorem lw_p31 : lw_okq (⟨"LimitTokensModel", "beginWalk", "(I)V"⟩, 42) := ⟨⟨by decide +kernel, by decide +kernel⟩, List.mem_of_getElem? (i := 612) (by decide +kernel), List.mem_of_getElem? (i := 891) (by decide +kernel), List.mem_of_getElem? (i := 892) (by decide +kernel)⟩
def lw_privs_2 : List (MethodName × Nat) := [(⟨"LimitTokens$TapeReader", "takeLimits", "(LLimitTokens$Token;)Z"⟩, 4), (⟨"LimitTokens$TapeReader", "takeLimit", "(LLimitTokens$Limit;)Z"⟩, 4), (⟨"LimitTokensModel", "take", "([III)V"⟩, 42), (⟨"LimitTokensModel", "hashNow", "()V"⟩, 42), (⟨"LimitTokensModel", "mix", "()V"⟩, 42), (⟨"LimitTokensModel", "keyIs", "([III)V"⟩, 42), (⟨"LimitTokensModel", "add", "([III)V"⟩, 42), (⟨"LimitTokensModel", "sealNow", "()V"⟩, 42), (⟨"LimitTokensModel", "keyed", "(I)V"⟩, 42), (⟨"LimitTokensModel", "isText", "(I)Z"⟩, 42), (⟨"LimitTokensModel", "isToken", "(I)Z"⟩, 42), (⟨"LimitTokensModel", "place", "(II)I"⟩, 42), (⟨"LimitTokensModel", "goOn", "([III)V"⟩, 42), (⟨"LimitTokensModel", "copyToken", "(II)V"⟩, 42), (⟨"LimitTokensModel", "truthOf", "([III)I"⟩, 42), (⟨"LimitTokensModel", "beginWalk", "(I)V"⟩, 42)]
theorem lw_r2 : ∀ q ∈ lw_privs_2, lw_okq q := List.forall_mem_cons.mpr ⟨lw_p16, List.forall_mem_cons.mpr ⟨lw_p17, List.forall_mem_cons.mpr ⟨lw_p18, List.forall_mem_cons.mpr ⟨lw_p19, List.forall_mem_cons.mpr ⟨lw_p20, List.forall_mem_cons.mpr ⟨lw_p21, List.forall_mem_cons.mpr ⟨lw_p22, List.forall_mem_cons.mpr ⟨lw_p23, List.forall_mem_cons.mpr ⟨lw_p24, List.forall_mem_cons.mpr ⟨lw_p25, List.forall_mem_cons.mpr ⟨lw_p26, List.forall_mem_cons.mpr ⟨lw_p27, List.forall_mem_cons.mpr ⟨lw_p28, List.forall_mem_cons.mpr ⟨lw_p29, List.forall_mem_cons.mpr ⟨lw_p30, List.forall_mem_cons.mpr ⟨lw_p31, fun _ h => absurd h List.not_mem_nil⟩⟩⟩⟩⟩⟩⟩⟩⟩⟩⟩⟩⟩⟩⟩⟩
theorem lw_p32 : lw_okq (⟨"LimitTokensModel", "walkOn", "(I)I"⟩, 42) := ⟨⟨by decide +kernel, by decide +kernel⟩, List.mem_of_getElem? (i := 612) (by decide +kernel), List.mem_of_getElem? (i := 895) (by decide +kernel), List.mem_of_getElem? (i := 896) (by decide +kernel)⟩
theorem lw_p33 : lw_okq (⟨"LimitTokensModel", "endWalk", "(III)I"⟩, 42) := ⟨⟨by decide +kernel, by decide +kernel⟩, List.mem_of_getElem? (i := 612) (by decide +kernel), List.mem_of_getElem? (i := 899) (by decide +kernel), List.mem_of_getElem? (i := 900) (by decide +kernel)⟩
theorem lw_p34 : lw_okq (⟨"LimitTokensModel", "isSame", "([II)Z"⟩, 42) := ⟨⟨by decide +kernel, by decide +kernel⟩, List.mem_of_getElem? (i := 612) (by decide +kernel), List.mem_of_getElem? (i := 903) (by decide +kernel), List.mem_of_getElem? (i := 904) (by decide +kernel)⟩
theorem lw_p35 : lw_okq (⟨"LimitTokensModel", "fail", "(III)I"⟩, 42) := ⟨⟨by decide +kernel, by decide +kernel⟩, List.mem_of_getElem? (i := 612) (by decide +kernel), List.mem_of_getElem? (i := 907) (by decide +kernel), List.mem_of_getElem? (i := 908) (by decide +kernel)⟩
theorem lw_p36 : lw_okq (⟨"LimitTokensModel", "isNamed", "(II)Z"⟩, 42) := ⟨⟨by decide +kernel, by decide +kernel⟩, List.mem_of_getElem? (i := 612) (by decide +kernel), List.mem_of_getElem? (i := 911) (by decide +kernel), List.mem_of_getElem? (i := 912) (by decide +kernel)⟩
theorem lw_p37 : lw_okq (⟨"LimitTokensModel", "put", "(I)V"⟩, 42) := ⟨⟨by decide +kernel, by decide +kernel⟩, List.mem_of_getElem? (i := 612) (by decide +kernel), List.mem_of_getElem? (i := 923) (by decide +kernel), List.mem_of_getElem? (i := 924) (by decide +kernel)⟩
theorem lw_p38 : lw_okq (⟨"LimitTokensModel", "putRow", "(I[III)V"⟩, 42) := ⟨⟨by decide +kernel, by decide +kernel⟩, List.mem_of_getElem? (i := 612) (by decide +kernel), List.mem_of_getElem? (i := 927) (by decide +kernel), List.mem_of_getElem? (i := 928) (by decide +kernel)⟩
theorem lw_p39 : lw_okq (⟨"LimitTokensModel", "want", "(I)V"⟩, 42) := ⟨⟨by decide +kernel, by decide +kernel⟩, List.mem_of_getElem? (i := 612) (by decide +kernel), List.mem_of_getElem? (i := 951) (by decide +kernel), List.mem_of_getElem? (i := 952) (by decide +kernel)⟩
theorem lw_p40 : lw_okq (⟨"LimitTokensModel", "next", "()I"⟩, 42) := ⟨⟨by decide +kernel, by decide +kernel⟩, List.mem_of_getElem? (i := 612) (by decide +kernel), List.mem_of_getElem? (i := 955) (by decide +kernel), List.mem_of_getElem? (i := 956) (by decide +kernel)⟩
theorem lw_p41 : lw_okq (⟨"LimitTokensModel", "wrong", "(II)V"⟩, 42) := ⟨⟨by decide +kernel, by decide +kernel⟩, List.mem_of_getElem? (i := 612) (by decide +kernel), List.mem_of_getElem? (i := 959) (by decide +kernel), List.mem_of_getElem? (i := 960) (by decide +kernel)⟩
theorem lw_p42 : lw_okq (⟨"LimitTokensModel", "readRow", "([IIII)I"⟩, 42) := ⟨⟨by decide +kernel, by decide +kernel⟩, List.mem_of_getElem? (i := 612) (by decide +kernel), List.mem_of_getElem? (i := 963) (by decide +kernel), List.mem_of_getElem? (i := 964) (by decide +kernel)⟩
theorem lw_p43 : lw_okq (⟨"LimitTokensModel", "readLimit", "()V"⟩, 42) := ⟨⟨by decide +kernel, by decide +kernel⟩, List.mem_of_getElem? (i := 612) (by decide +kernel), List.mem_of_getElem? (i := 967) (by decide +kernel), List.mem_of_getElem? (i := 968) (by decide +kernel)⟩
def lw_privs_3 : List (MethodName × Nat) := [(⟨"LimitTokensModel", "walkOn", "(I)I"⟩, 42), (⟨"LimitTokensModel", "endWalk", "(III)I"⟩, 42), (⟨"LimitTokensModel", "isSame", "([II)Z"⟩, 42), (⟨"LimitTokensModel", "fail", "(III)I"⟩, 42), (⟨"LimitTokensModel", "isNamed", "(II)Z"⟩, 42), (⟨"LimitTokensModel", "put", "(I)V"⟩, 42), (⟨"LimitTokensModel", "putRow", "(I[III)V"⟩, 42), (⟨"LimitTokensModel", "want", "(I)V"⟩, 42), (⟨"LimitTokensModel", "next", "()I"⟩, 42), (⟨"LimitTokensModel", "wrong", "(II)V"⟩, 42), (⟨"LimitTokensModel", "readRow", "([IIII)I"⟩, 42), (⟨"LimitTokensModel", "readLimit", "()V"⟩, 42)]
theorem lw_r3 : ∀ q ∈ lw_privs_3, lw_okq q := List.forall_mem_cons.mpr ⟨lw_p32, List.forall_mem_cons.mpr ⟨lw_p33, List.forall_mem_cons.mpr ⟨lw_p34, List.forall_mem_cons.mpr ⟨lw_p35, List.forall_mem_cons.mpr ⟨lw_p36, List.forall_mem_cons.mpr ⟨lw_p37, List.forall_mem_cons.mpr ⟨lw_p38, List.forall_mem_cons.mpr ⟨lw_p39, List.forall_mem_cons.mpr ⟨lw_p40, List.forall_mem_cons.mpr ⟨lw_p41, List.forall_mem_cons.mpr ⟨lw_p42, List.forall_mem_cons.mpr ⟨lw_p43, fun _ h => absurd h List.not_mem_nil⟩⟩⟩⟩⟩⟩⟩⟩⟩⟩⟩⟩
def lw_privs : List (MethodName × Nat) := lw_privs_1 ++ (lw_privs_2 ++ (lw_privs_3))
def lw_tbl : List Cond := k2_sels lw_privs ++ tables_1
theorem lw_privs_ok : ∀ q ∈ lw_privs, lw_okq q := by
  show ∀ q ∈ lw_privs_1 ++ (lw_privs_2 ++ (lw_privs_3)), lw_okq q
  exact List.forall_mem_append.mpr ⟨lw_r1, List.forall_mem_append.mpr ⟨lw_r2, lw_r3⟩⟩
end
section
/-! ===== BEGIN words of one list among another's, by their places ===== -/
theorem goodIn_r {big : List Cond} (ws : List Cond) (ps : List Nat) (hp : ws = ps.filterMap (fun i => big[i]?)) (h : ws.all goodWord = true) : GoodIn big ws := by
  intro w hw
  have h1 := List.all_eq_true.mp h w hw
  rw [hp] at hw
  obtain ⟨i, -, hi⟩ := List.mem_filterMap.mp hw
  have hm : w ∈ big := by first | exact List.mem_of_getElem? hi | exact List.getElem?_mem hi
  exact ⟨hm, good_of_word h1⟩
theorem goodIn_app {big a b : List Cond} (ha : GoodIn big a) (hb : GoodIn big b) : GoodIn big (a ++ b) := fun w h => (List.mem_append.mp h).elim (ha w) (hb w)
theorem goodIn_ca {big a b : List Cond} {c : Cond} (ha : GoodIn big (c :: a)) (hb : GoodIn big b) : GoodIn big (c :: (a ++ b)) := fun w h => (List.mem_cons.mp h).elim (fun e => ha w (List.mem_cons.mpr (Or.inl e))) (fun h => (List.mem_append.mp h).elim (fun h => ha w (List.mem_cons.mpr (Or.inr h))) (hb w))
theorem goodIn_sub {big ws : List Cond} (hm : ∀ w ∈ ws, w ∈ big) (h : ws.all goodWord = true) : GoodIn big ws := fun w hw => ⟨hm w hw, good_of_word (List.all_eq_true.mp h w hw)⟩
/-! ===== END ===== -/

/-! ===== BEGIN printed: names, fields, word lists, decode rows ===== -/
def RX0 : String := "LimitTokens$Judge"
def TX0 : u_T := fun k => match k with
  | 0 => ("LimitTokens$Judge", "request", "[I", true)
  | _ => ("LimitTokens$Judge", "position", "I", false)
def tyX0 : Nat → FieldType := fun k => match k with
  | 0 => .array .int
  | _ => .int
abbrev wsX00 : List Cond := u_ws RX0 TX0 2
theorem nmX0 : ∀ a, a < 2 → ∀ b, b < 2 → a ≠ b → (TX0 a).2.1 ≠ (TX0 b).2.1 := by decide +kernel
theorem tyX0_ok : ∀ k, k < 2 → parseFieldDescriptor (TX0 k).2.2.1 = some (tyX0 k) := by decide +kernel
abbrev cX0_init : ByteArray := prog_2_method_1_code
def yX0_init : MethodName := ⟨RX0, "<init>", "()V"⟩
abbrev cX0_judgeText : ByteArray := prog_2_method_2_code
def yX0_judgeText : MethodName := ⟨RX0, "judgeText", "(LLimitTokens$Row;)I"⟩
abbrev cX0_judgeTest : ByteArray := prog_2_method_3_code
def yX0_judgeTest : MethodName := ⟨RX0, "judgeTest", "(LLimitTokens$Row;)I"⟩
abbrev cX0_takeNumber : ByteArray := prog_2_method_4_code
def yX0_takeNumber : MethodName := ⟨RX0, "takeNumber", "(LLimitTokens$Row;)I"⟩
abbrev cX0_isKind : ByteArray := prog_2_method_5_code
def yX0_isKind : MethodName := ⟨RX0, "isKind", "(I)Z"⟩
abbrev cX0_holds : ByteArray := prog_2_method_6_code
def yX0_holds : MethodName := ⟨RX0, "holds", "(III)Z"⟩
def RX1 : String := "LimitTokens$Limit"
def TX1 : u_T := fun k => match k with
  | 0 => ("LimitTokens$Limit", "text", "LLimitTokens$Row;", true)
  | _ => ("LimitTokens$Limit", "lock", "LLimitTokens$Row;", true)
def tyX1 : Nat → FieldType := fun k => match k with
  | 0 => .object "LimitTokens$Row"
  | _ => .object "LimitTokens$Row"
abbrev wsX10 : List Cond := u_ws RX1 TX1 2
theorem nmX1 : ∀ a, a < 2 → ∀ b, b < 2 → a ≠ b → (TX1 a).2.1 ≠ (TX1 b).2.1 := by decide +kernel
theorem tyX1_ok : ∀ k, k < 2 → parseFieldDescriptor (TX1 k).2.2.1 = some (tyX1 k) := by decide +kernel
abbrev cX1_init : ByteArray := prog_3_method_1_code
def yX1_init : MethodName := ⟨RX1, "<init>", "()V"⟩
abbrev cX1_isOfOthers : ByteArray := prog_3_method_2_code
def yX1_isOfOthers : MethodName := ⟨RX1, "isOfOthers", "()Z"⟩
abbrev cX1_takeOver : ByteArray := prog_3_method_3_code
def yX1_takeOver : MethodName := ⟨RX1, "takeOver", "(LLimitTokens$Limit;)V"⟩
abbrev cX1_putOn : ByteArray := prog_3_method_4_code
def yX1_putOn : MethodName := ⟨RX1, "putOn", "(LLimitTokens$Row;)V"⟩
def RX2 : String := "LimitTokens$Prover"
def TX2 : u_T := fun k => match k with
  | 0 => ("LimitTokens$Prover", "tokens", "[LLimitTokens$Token;", true)
  | 1 => ("LimitTokens$Prover", "sealer", "LLimitTokens$Sealer;", true)
  | 2 => ("LimitTokens$Prover", "judge", "LLimitTokens$Judge;", true)
  | 3 => ("LimitTokens$Prover", "signs", "[LLimitTokens$Row;", true)
  | 4 => ("LimitTokens$Prover", "keys", "[LLimitTokens$Row;", true)
  | 5 => ("LimitTokens$Prover", "proved", "I", false)
  | 6 => ("LimitTokens$Prover", "waiting", "I", false)
  | 7 => ("LimitTokens$Prover", "found", "I", false)
  | 8 => ("LimitTokens$Prover", "foundToken", "I", false)
  | 9 => ("LimitTokens$Prover", "foundLimit", "I", false)
  | _ => ("LimitTokens$Prover", "begun", "I", false)
def tyX2 : Nat → FieldType := fun k => match k with
  | 0 => .array (.object "LimitTokens$Token")
  | 1 => .object "LimitTokens$Sealer"
  | 2 => .object "LimitTokens$Judge"
  | 3 => .array (.object "LimitTokens$Row")
  | 4 => .array (.object "LimitTokens$Row")
  | 5 => .int
  | 6 => .int
  | 7 => .int
  | 8 => .int
  | 9 => .int
  | _ => .int
abbrev wsX20 : List Cond := u_ws RX2 TX2 11
theorem nmX2 : ∀ a, a < 11 → ∀ b, b < 11 → a ≠ b → (TX2 a).2.1 ≠ (TX2 b).2.1 := by decide +kernel
theorem tyX2_ok : ∀ k, k < 11 → parseFieldDescriptor (TX2 k).2.2.1 = some (tyX2 k) := by decide +kernel
abbrev cX2_init : ByteArray := prog_4_method_1_code
def yX2_init : MethodName := ⟨RX2, "<init>", "()V"⟩
abbrev cX2_begin : ByteArray := prog_4_method_2_code
def yX2_begin : MethodName := ⟨RX2, "begin", "(II)V"⟩
abbrev cX2_walk : ByteArray := prog_4_method_3_code
def yX2_walk : MethodName := ⟨RX2, "walk", "(ILLimitTokens$Row;I)Z"⟩
abbrev cX2_compareSign : ByteArray := prog_4_method_4_code
def yX2_compareSign : MethodName := ⟨RX2, "compareSign", "()V"⟩
abbrev cX2_passOwn : ByteArray := prog_4_method_5_code
def yX2_passOwn : MethodName := ⟨RX2, "passOwn", "(III)Z"⟩
abbrev cX2_passOthers : ByteArray := prog_4_method_6_code
def yX2_passOthers : MethodName := ⟨RX2, "passOthers", "(III)Z"⟩
abbrev cX2_helperNamed : ByteArray := prog_4_method_7_code
def yX2_helperNamed : MethodName := ⟨RX2, "helperNamed", "(LLimitTokens$Row;)I"⟩
abbrev cX2_stopAt : ByteArray := prog_4_method_8_code
def yX2_stopAt : MethodName := ⟨RX2, "stopAt", "(III)Z"⟩
def RX3 : String := "LimitTokens$Row"
def TX3 : u_T := fun k => match k with
  | 0 => ("LimitTokens$Row", "bytes", "[I", true)
  | _ => ("LimitTokens$Row", "length", "I", false)
def tyX3 : Nat → FieldType := fun k => match k with
  | 0 => .array .int
  | _ => .int
abbrev wsX30 : List Cond := u_ws RX3 TX3 2
theorem nmX3 : ∀ a, a < 2 → ∀ b, b < 2 → a ≠ b → (TX3 a).2.1 ≠ (TX3 b).2.1 := by decide +kernel
theorem tyX3_ok : ∀ k, k < 2 → parseFieldDescriptor (TX3 k).2.2.1 = some (tyX3 k) := by decide +kernel
abbrev cX3_init : ByteArray := prog_5_method_1_code
def yX3_init : MethodName := ⟨RX3, "<init>", "(I)V"⟩
abbrev cX3_has : ByteArray := prog_5_method_2_code
def yX3_has : MethodName := ⟨RX3, "has", "(I)Z"⟩
abbrev cX3_hasRoomFor : ByteArray := prog_5_method_3_code
def yX3_hasRoomFor : MethodName := ⟨RX3, "hasRoomFor", "(I)Z"⟩
abbrev cX3_byteAt : ByteArray := prog_5_method_4_code
def yX3_byteAt : MethodName := ⟨RX3, "byteAt", "(I)I"⟩
abbrev cX3_makeEmpty : ByteArray := prog_5_method_5_code
def yX3_makeEmpty : MethodName := ⟨RX3, "makeEmpty", "()V"⟩
abbrev cX3_push : ByteArray := prog_5_method_6_code
def yX3_push : MethodName := ⟨RX3, "push", "(I)V"⟩
abbrev cX3_pushWord : ByteArray := prog_5_method_7_code
def yX3_pushWord : MethodName := ⟨RX3, "pushWord", "(I)V"⟩
abbrev cX3_pushZeros : ByteArray := prog_5_method_8_code
def yX3_pushZeros : MethodName := ⟨RX3, "pushZeros", "(I)V"⟩
abbrev cX3_pushAll : ByteArray := prog_5_method_9_code
def yX3_pushAll : MethodName := ⟨RX3, "pushAll", "(LLimitTokens$Row;)V"⟩
abbrev cX3_pushPart : ByteArray := prog_5_method_10_code
def yX3_pushPart : MethodName := ⟨RX3, "pushPart", "(LLimitTokens$Row;II)V"⟩
abbrev cX3_takeOver : ByteArray := prog_5_method_11_code
def yX3_takeOver : MethodName := ⟨RX3, "takeOver", "(LLimitTokens$Row;)V"⟩
abbrev cX3_flip : ByteArray := prog_5_method_12_code
def yX3_flip : MethodName := ⟨RX3, "flip", "(II)I"⟩
abbrev cX3_isSameAs : ByteArray := prog_5_method_13_code
def yX3_isSameAs : MethodName := ⟨RX3, "isSameAs", "(LLimitTokens$Row;)Z"⟩
def RX4 : String := "LimitTokens$Sealer"
def TX4 : u_T := fun k => match k with
  | 0 => ("LimitTokens$Sealer", "state", "[I", true)
  | 1 => ("LimitTokens$Sealer", "words", "[I", true)
  | 2 => ("LimitTokens$Sealer", "work", "LLimitTokens$Row;", true)
  | 3 => ("LimitTokens$Sealer", "keyBlock", "LLimitTokens$Row;", true)
  | 4 => ("LimitTokens$Sealer", "inner", "LLimitTokens$Row;", true)
  | 5 => ("LimitTokens$Sealer", "pair", "LLimitTokens$Row;", true)
  | 6 => ("LimitTokens$Sealer", "textSeal", "LLimitTokens$Row;", true)
  | 7 => ("LimitTokens$Sealer", "lockSeal", "LLimitTokens$Row;", true)
  | _ => ("LimitTokens$Sealer", "zeroKey", "LLimitTokens$Row;", true)
def tyX4 : Nat → FieldType := fun k => match k with
  | 0 => .array .int
  | 1 => .array .int
  | 2 => .object "LimitTokens$Row"
  | 3 => .object "LimitTokens$Row"
  | 4 => .object "LimitTokens$Row"
  | 5 => .object "LimitTokens$Row"
  | 6 => .object "LimitTokens$Row"
  | 7 => .object "LimitTokens$Row"
  | _ => .object "LimitTokens$Row"
abbrev wsX40 : List Cond := u_ws RX4 TX4 9
theorem nmX4 : ∀ a, a < 9 → ∀ b, b < 9 → a ≠ b → (TX4 a).2.1 ≠ (TX4 b).2.1 := by decide +kernel
theorem tyX4_ok : ∀ k, k < 9 → parseFieldDescriptor (TX4 k).2.2.1 = some (tyX4 k) := by decide +kernel
abbrev cX4_init : ByteArray := prog_6_method_1_code
def yX4_init : MethodName := ⟨RX4, "<init>", "()V"⟩
abbrev cX4_hashInto : ByteArray := prog_6_method_2_code
def yX4_hashInto : MethodName := ⟨RX4, "hashInto", "(LLimitTokens$Row;LLimitTokens$Row;)V"⟩
abbrev cX4_sealInto : ByteArray := prog_6_method_3_code
def yX4_sealInto : MethodName := ⟨RX4, "sealInto", "(LLimitTokens$Row;LLimitTokens$Row;LLimitTokens$Row;)V"⟩
abbrev cX4_goOnOwn : ByteArray := prog_6_method_4_code
def yX4_goOnOwn : MethodName := ⟨RX4, "goOnOwn", "(LLimitTokens$Row;LLimitTokens$Limit;)V"⟩
abbrev cX4_goOnOthers : ByteArray := prog_6_method_5_code
def yX4_goOnOthers : MethodName := ⟨RX4, "goOnOthers", "(LLimitTokens$Row;LLimitTokens$Limit;)V"⟩
abbrev cX4_turnKey : ByteArray := prog_6_method_6_code
def yX4_turnKey : MethodName := ⟨RX4, "turnKey", "(LLimitTokens$Row;LLimitTokens$Row;LLimitTokens$Row;LLimitTokens$Row;)V"⟩
abbrev cX4_bindSign : ByteArray := prog_6_method_7_code
def yX4_bindSign : MethodName := ⟨RX4, "bindSign", "(LLimitTokens$Row;LLimitTokens$Row;)V"⟩
abbrev cX4_startWork : ByteArray := prog_6_method_8_code
def yX4_startWork : MethodName := ⟨RX4, "startWork", "(I)V"⟩
abbrev cX4_hashWork : ByteArray := prog_6_method_9_code
def yX4_hashWork : MethodName := ⟨RX4, "hashWork", "(LLimitTokens$Row;)V"⟩
abbrev cX4_mixWords : ByteArray := prog_6_method_10_code
def yX4_mixWords : MethodName := ⟨RX4, "mixWords", "()V"⟩
abbrev cX4_spreadWords : ByteArray := prog_6_method_11_code
def yX4_spreadWords : MethodName := ⟨RX4, "spreadWords", "(I)V"⟩
def RX5 : String := "LimitTokens$TapeReader"
def TX5 : u_T := fun k => match k with
  | 0 => ("LimitTokens$TapeReader", "source", "LLimitTokens$Row;", true)
  | 1 => ("LimitTokens$TapeReader", "position", "I", false)
  | 2 => ("LimitTokens$TapeReader", "found", "I", false)
  | _ => ("LimitTokens$TapeReader", "foundPlace", "I", false)
def tyX5 : Nat → FieldType := fun k => match k with
  | 0 => .object "LimitTokens$Row"
  | 1 => .int
  | 2 => .int
  | _ => .int
abbrev wsX50 : List Cond := u_ws RX5 TX5 4
theorem nmX5 : ∀ a, a < 4 → ∀ b, b < 4 → a ≠ b → (TX5 a).2.1 ≠ (TX5 b).2.1 := by decide +kernel
theorem tyX5_ok : ∀ k, k < 4 → parseFieldDescriptor (TX5 k).2.2.1 = some (tyX5 k) := by decide +kernel
abbrev cX5_init : ByteArray := prog_7_method_1_code
def yX5_init : MethodName := ⟨RX5, "<init>", "()V"⟩
abbrev cX5_readToken : ByteArray := prog_7_method_2_code
def yX5_readToken : MethodName := ⟨RX5, "readToken", "(LLimitTokens$Token;)Z"⟩
abbrev cX5_takeLimits : ByteArray := prog_7_method_3_code
def yX5_takeLimits : MethodName := ⟨RX5, "takeLimits", "(LLimitTokens$Token;)Z"⟩
abbrev cX5_takeLimit : ByteArray := prog_7_method_4_code
def yX5_takeLimit : MethodName := ⟨RX5, "takeLimit", "(LLimitTokens$Limit;)Z"⟩
abbrev cX5_takeMark : ByteArray := prog_7_method_5_code
def yX5_takeMark : MethodName := ⟨RX5, "takeMark", "(I)Z"⟩
abbrev cX5_takeBytes : ByteArray := prog_7_method_6_code
def yX5_takeBytes : MethodName := ⟨RX5, "takeBytes", "(LLimitTokens$Row;II)Z"⟩
abbrev cX5_stopAt : ByteArray := prog_7_method_7_code
def yX5_stopAt : MethodName := ⟨RX5, "stopAt", "(I)Z"⟩
def RX6 : String := "LimitTokens$Token"
def TX6 : u_T := fun k => match k with
  | 0 => ("LimitTokens$Token", "name", "LLimitTokens$Row;", true)
  | 1 => ("LimitTokens$Token", "sign", "LLimitTokens$Row;", true)
  | 2 => ("LimitTokens$Token", "limits", "[LLimitTokens$Limit;", true)
  | 3 => ("LimitTokens$Token", "count", "I", false)
  | _ => ("LimitTokens$Token", "there", "Z", false)
def tyX6 : Nat → FieldType := fun k => match k with
  | 0 => .object "LimitTokens$Row"
  | 1 => .object "LimitTokens$Row"
  | 2 => .array (.object "LimitTokens$Limit")
  | 3 => .int
  | _ => .boolean
abbrev wsX60 : List Cond := u_ws RX6 TX6 5
theorem nmX6 : ∀ a, a < 5 → ∀ b, b < 5 → a ≠ b → (TX6 a).2.1 ≠ (TX6 b).2.1 := by decide +kernel
theorem tyX6_ok : ∀ k, k < 5 → parseFieldDescriptor (TX6 k).2.2.1 = some (tyX6 k) := by decide +kernel
abbrev cX6_init : ByteArray := prog_8_method_1_code
def yX6_init : MethodName := ⟨RX6, "<init>", "()V"⟩
abbrev cX6_isFull : ByteArray := prog_8_method_2_code
def yX6_isFull : MethodName := ⟨RX6, "isFull", "()Z"⟩
abbrev cX6_limitTold : ByteArray := prog_8_method_3_code
def yX6_limitTold : MethodName := ⟨RX6, "limitTold", "(I)I"⟩
abbrev cX6_takeOver : ByteArray := prog_8_method_4_code
def yX6_takeOver : MethodName := ⟨RX6, "takeOver", "(LLimitTokens$Token;)V"⟩
abbrev cX6_putOn : ByteArray := prog_8_method_5_code
def yX6_putOn : MethodName := ⟨RX6, "putOn", "(LLimitTokens$Row;)V"⟩
def RX7 : String := "LimitTokens"
def TX7 : u_T := fun k => match k with
  | 0 => ("LimitTokens", "registers", "[LLimitTokens$Row;", true)
  | 1 => ("LimitTokens", "prover", "LLimitTokens$Prover;", true)
  | 2 => ("LimitTokens", "reader", "LLimitTokens$TapeReader;", true)
  | 3 => ("LimitTokens", "spare", "LLimitTokens$Token;", true)
  | 4 => ("LimitTokens", "tokens", "[LLimitTokens$Token;", true)
  | 5 => ("LimitTokens", "sealer", "LLimitTokens$Sealer;", true)
  | 6 => ("LimitTokens", "judge", "LLimitTokens$Judge;", true)
  | 7 => ("LimitTokens", "request", "[I", true)
  | _ => ("LimitTokens", "tape", "LLimitTokens$Row;", true)
def tyX7 : Nat → FieldType := fun k => match k with
  | 0 => .array (.object "LimitTokens$Row")
  | 1 => .object "LimitTokens$Prover"
  | 2 => .object "LimitTokens$TapeReader"
  | 3 => .object "LimitTokens$Token"
  | 4 => .array (.object "LimitTokens$Token")
  | 5 => .object "LimitTokens$Sealer"
  | 6 => .object "LimitTokens$Judge"
  | 7 => .array .int
  | _ => .object "LimitTokens$Row"
abbrev wsX70 : List Cond := u_ws RX7 TX7 9
theorem nmX7 : ∀ a, a < 9 → ∀ b, b < 9 → a ≠ b → (TX7 a).2.1 ≠ (TX7 b).2.1 := by decide +kernel
theorem tyX7_ok : ∀ k, k < 9 → parseFieldDescriptor (TX7 k).2.2.1 = some (tyX7 k) := by decide +kernel
abbrev cX7_init : ByteArray := prog_1_method_1_code
def yX7_init : MethodName := ⟨RX7, "<init>", "()V"⟩
abbrev cX7_add : ByteArray := prog_1_method_2_code
def yX7_add : MethodName := ⟨RX7, "add", "(IIJ)I"⟩
abbrev cX7_clear : ByteArray := prog_1_method_3_code
def yX7_clear : MethodName := ⟨RX7, "clear", "(I)I"⟩
abbrev cX7_at : ByteArray := prog_1_method_4_code
def yX7_at : MethodName := ⟨RX7, "at", "(II)I"⟩
abbrev cX7_hash : ByteArray := prog_1_method_5_code
def yX7_hash : MethodName := ⟨RX7, "hash", "(II)I"⟩
abbrev cX7_seal : ByteArray := prog_1_method_6_code
def yX7_seal : MethodName := ⟨RX7, "seal", "(III)I"⟩
abbrev cX7_make : ByteArray := prog_1_method_7_code
def yX7_make : MethodName := ⟨RX7, "make", "(III)I"⟩
abbrev cX7_limit : ByteArray := prog_1_method_8_code
def yX7_limit : MethodName := ⟨RX7, "limit", "(II)I"⟩
abbrev cX7_others : ByteArray := prog_1_method_9_code
def yX7_others : MethodName := ⟨RX7, "others", "(III)I"⟩
abbrev cX7_bind : ByteArray := prog_1_method_10_code
def yX7_bind : MethodName := ⟨RX7, "bind", "(II)I"⟩
abbrev cX7_copy : ByteArray := prog_1_method_11_code
def yX7_copy : MethodName := ⟨RX7, "copy", "(II)I"⟩
abbrev cX7_drop : ByteArray := prog_1_method_12_code
def yX7_drop : MethodName := ⟨RX7, "drop", "(I)I"⟩
abbrev cX7_told : ByteArray := prog_1_method_13_code
def yX7_told : MethodName := ⟨RX7, "told", "(II)I"⟩
abbrev cX7_sign : ByteArray := prog_1_method_14_code
def yX7_sign : MethodName := ⟨RX7, "sign", "(II)I"⟩
abbrev cX7_spoil : ByteArray := prog_1_method_15_code
def yX7_spoil : MethodName := ⟨RX7, "spoil", "(IIII)I"⟩
abbrev cX7_ask : ByteArray := prog_1_method_16_code
def yX7_ask : MethodName := ⟨RX7, "ask", "(II)I"⟩
abbrev cX7_truth : ByteArray := prog_1_method_17_code
def yX7_truth : MethodName := ⟨RX7, "truth", "(I)I"⟩
abbrev cX7_prove : ByteArray := prog_1_method_18_code
def yX7_prove : MethodName := ⟨RX7, "prove", "(III)I"⟩
abbrev cX7_fault : ByteArray := prog_1_method_19_code
def yX7_fault : MethodName := ⟨RX7, "fault", "(I)I"⟩
abbrev cX7_write : ByteArray := prog_1_method_20_code
def yX7_write : MethodName := ⟨RX7, "write", "(I)I"⟩
abbrev cX7_type : ByteArray := prog_1_method_21_code
def yX7_type : MethodName := ⟨RX7, "type", "(JI)I"⟩
abbrev cX7_tape : ByteArray := prog_1_method_22_code
def yX7_tape : MethodName := ⟨RX7, "tape", "(I)I"⟩
abbrev cX7_cut : ByteArray := prog_1_method_23_code
def yX7_cut : MethodName := ⟨RX7, "cut", "(I)I"⟩
abbrev cX7_forge : ByteArray := prog_1_method_24_code
def yX7_forge : MethodName := ⟨RX7, "forge", "(II)I"⟩
abbrev cX7_read : ByteArray := prog_1_method_25_code
def yX7_read : MethodName := ⟨RX7, "read", "(I)I"⟩
abbrev cX7_place : ByteArray := prog_1_method_26_code
def yX7_place : MethodName := ⟨RX7, "place", "()I"⟩
abbrev cX7_isRegister : ByteArray := prog_1_method_27_code
def yX7_isRegister : MethodName := ⟨RX7, "isRegister", "(I)Z"⟩
abbrev cX7_isTokenNumber : ByteArray := prog_1_method_28_code
def yX7_isTokenNumber : MethodName := ⟨RX7, "isTokenNumber", "(I)Z"⟩
abbrev cX7_isWidth : ByteArray := prog_1_method_29_code
def yX7_isWidth : MethodName := ⟨RX7, "isWidth", "(I)Z"⟩
abbrev cX7_isByte : ByteArray := prog_1_method_30_code
def yX7_isByte : MethodName := ⟨RX7, "isByte", "(I)Z"⟩
abbrev cX7_isWordingLength : ByteArray := prog_1_method_31_code
def yX7_isWordingLength : MethodName := ⟨RX7, "isWordingLength", "(I)Z"⟩
abbrev cX7_isThere : ByteArray := prog_1_method_32_code
def yX7_isThere : MethodName := ⟨RX7, "isThere", "(I)Z"⟩
abbrev cX7_areThere : ByteArray := prog_1_method_33_code
def yX7_areThere : MethodName := ⟨RX7, "areThere", "(I)Z"⟩
abbrev cX7_pushLowest : ByteArray := prog_1_method_34_code
def yX7_pushLowest : MethodName := ⟨RX7, "pushLowest", "(LLimitTokens$Row;IJ)I"⟩
def RX8 : String := "LimitTokensModel"
def TX8 : u_T := fun k => match k with
  | 0 => ("LimitTokensModel", "thrown", "I", false)
  | 1 => ("LimitTokensModel", "starts", "[I", true)
  | 2 => ("LimitTokensModel", "adds", "[I", true)
  | 3 => ("LimitTokensModel", "h", "[I", true)
  | 4 => ("LimitTokensModel", "w", "[I", true)
  | 5 => ("LimitTokensModel", "v", "[I", true)
  | 6 => ("LimitTokensModel", "in", "[I", true)
  | 7 => ("LimitTokensModel", "inSize", "I", false)
  | 8 => ("LimitTokensModel", "hashed", "[I", true)
  | 9 => ("LimitTokensModel", "key", "[I", true)
  | 10 => ("LimitTokensModel", "keySize", "I", false)
  | 11 => ("LimitTokensModel", "message", "[I", true)
  | 12 => ("LimitTokensModel", "messageSize", "I", false)
  | 13 => ("LimitTokensModel", "out", "[I", true)
  | 14 => ("LimitTokensModel", "kept", "[I", true)
  | 15 => ("LimitTokensModel", "zeros", "[I", true)
  | 16 => ("LimitTokensModel", "register", "[I", true)
  | 17 => ("LimitTokensModel", "registerSize", "[I", true)
  | 18 => ("LimitTokensModel", "tape", "[I", true)
  | 19 => ("LimitTokensModel", "tapeSize", "I", false)
  | 20 => ("LimitTokensModel", "place", "I", false)
  | 21 => ("LimitTokensModel", "there", "[Z", true)
  | 22 => ("LimitTokensModel", "nameSize", "[I", true)
  | 23 => ("LimitTokensModel", "name", "[I", true)
  | 24 => ("LimitTokensModel", "limits", "[I", true)
  | 25 => ("LimitTokensModel", "textSize", "[I", true)
  | 26 => ("LimitTokensModel", "text", "[I", true)
  | 27 => ("LimitTokensModel", "isOthers", "[Z", true)
  | 28 => ("LimitTokensModel", "lock", "[I", true)
  | 29 => ("LimitTokensModel", "sign", "[I", true)
  | 30 => ("LimitTokensModel", "asked", "[I", true)
  | 31 => ("LimitTokensModel", "depth", "I", false)
  | 32 => ("LimitTokensModel", "walker", "[I", true)
  | 33 => ("LimitTokensModel", "step", "[I", true)
  | 34 => ("LimitTokensModel", "pile", "[I", true)
  | 35 => ("LimitTokensModel", "walked", "[Z", true)
  | 36 => ("LimitTokensModel", "proved", "Z", false)
  | 37 => ("LimitTokensModel", "faultToken", "I", false)
  | 38 => ("LimitTokensModel", "faultLimit", "I", false)
  | 39 => ("LimitTokensModel", "begun", "I", false)
  | 40 => ("LimitTokensModel", "readAt", "I", false)
  | _ => ("LimitTokensModel", "readFault", "I", false)
def tyX8 : Nat → FieldType := fun k => match k with
  | 0 => .int
  | 1 => .array .int
  | 2 => .array .int
  | 3 => .array .int
  | 4 => .array .int
  | 5 => .array .int
  | 6 => .array .int
  | 7 => .int
  | 8 => .array .int
  | 9 => .array .int
  | 10 => .int
  | 11 => .array .int
  | 12 => .int
  | 13 => .array .int
  | 14 => .array .int
  | 15 => .array .int
  | 16 => .array .int
  | 17 => .array .int
  | 18 => .array .int
  | 19 => .int
  | 20 => .int
  | 21 => .array .boolean
  | 22 => .array .int
  | 23 => .array .int
  | 24 => .array .int
  | 25 => .array .int
  | 26 => .array .int
  | 27 => .array .boolean
  | 28 => .array .int
  | 29 => .array .int
  | 30 => .array .int
  | 31 => .int
  | 32 => .array .int
  | 33 => .array .int
  | 34 => .array .int
  | 35 => .array .boolean
  | 36 => .boolean
  | 37 => .int
  | 38 => .int
  | 39 => .int
  | 40 => .int
  | _ => .int
abbrev wsX80 : List Cond := u_ws RX8 TX8 42
theorem nmX8 : ∀ a, a < 42 → ∀ b, b < 42 → a ≠ b → (TX8 a).2.1 ≠ (TX8 b).2.1 := by decide +kernel
theorem tyX8_ok : ∀ k, k < 42 → parseFieldDescriptor (TX8 k).2.2.1 = some (tyX8 k) := by decide +kernel
abbrev cX8_init : ByteArray := prog_10_method_1_code
def yX8_init : MethodName := ⟨RX8, "<init>", "()V"⟩
abbrev cX8_within : ByteArray := prog_10_method_3_code
def yX8_within : MethodName := ⟨RX8, "within", "(III)Z"⟩
abbrev cX8_root : ByteArray := prog_10_method_4_code
def yX8_root : MethodName := ⟨RX8, "root", "(II)I"⟩
abbrev cX8_isUnder : ByteArray := prog_10_method_5_code
def yX8_isUnder : MethodName := ⟨RX8, "isUnder", "(JII)Z"⟩
abbrev cX8_turned : ByteArray := prog_10_method_6_code
def yX8_turned : MethodName := ⟨RX8, "turned", "(II)I"⟩
abbrev cX8_mix : ByteArray := prog_10_method_7_code
def yX8_mix : MethodName := ⟨RX8, "mix", "()V"⟩
abbrev cX8_hashNow : ByteArray := prog_10_method_8_code
def yX8_hashNow : MethodName := ⟨RX8, "hashNow", "()V"⟩
abbrev cX8_take : ByteArray := prog_10_method_9_code
def yX8_take : MethodName := ⟨RX8, "take", "([III)V"⟩
abbrev cX8_keyIs : ByteArray := prog_10_method_10_code
def yX8_keyIs : MethodName := ⟨RX8, "keyIs", "([III)V"⟩
abbrev cX8_add : ByteArray := prog_10_method_11_code
def yX8_add : MethodName := ⟨RX8, "add", "([III)V"⟩
abbrev cX8_keyed : ByteArray := prog_10_method_12_code
def yX8_keyed : MethodName := ⟨RX8, "keyed", "(I)V"⟩
abbrev cX8_sealNow : ByteArray := prog_10_method_13_code
def yX8_sealNow : MethodName := ⟨RX8, "sealNow", "()V"⟩
abbrev cX8_copyTo : ByteArray := prog_10_method_14_code
def yX8_copyTo : MethodName := ⟨RX8, "copyTo", "([I[II)V"⟩
abbrev cX8_is : ByteArray := prog_10_method_15_code
def yX8_is : MethodName := ⟨RX8, "is", "(I)Z"⟩
abbrev cX8_add_ : ByteArray := prog_10_method_16_code
def yX8_add_ : MethodName := ⟨RX8, "add", "(IIJ)I"⟩
abbrev cX8_clear : ByteArray := prog_10_method_17_code
def yX8_clear : MethodName := ⟨RX8, "clear", "(I)I"⟩
abbrev cX8_at : ByteArray := prog_10_method_18_code
def yX8_at : MethodName := ⟨RX8, "at", "(II)I"⟩
abbrev cX8_hash : ByteArray := prog_10_method_19_code
def yX8_hash : MethodName := ⟨RX8, "hash", "(II)I"⟩
abbrev cX8_seal : ByteArray := prog_10_method_20_code
def yX8_seal : MethodName := ⟨RX8, "seal", "(III)I"⟩
abbrev cX8_isToken : ByteArray := prog_10_method_21_code
def yX8_isToken : MethodName := ⟨RX8, "isToken", "(I)Z"⟩
abbrev cX8_isText : ByteArray := prog_10_method_22_code
def yX8_isText : MethodName := ⟨RX8, "isText", "(I)Z"⟩
abbrev cX8_make : ByteArray := prog_10_method_23_code
def yX8_make : MethodName := ⟨RX8, "make", "(III)I"⟩
abbrev cX8_place : ByteArray := prog_10_method_24_code
def yX8_place : MethodName := ⟨RX8, "place", "(II)I"⟩
abbrev cX8_limit : ByteArray := prog_10_method_25_code
def yX8_limit : MethodName := ⟨RX8, "limit", "(II)I"⟩
abbrev cX8_goOn : ByteArray := prog_10_method_26_code
def yX8_goOn : MethodName := ⟨RX8, "goOn", "([III)V"⟩
abbrev cX8_others : ByteArray := prog_10_method_27_code
def yX8_others : MethodName := ⟨RX8, "others", "(III)I"⟩
abbrev cX8_bind : ByteArray := prog_10_method_28_code
def yX8_bind : MethodName := ⟨RX8, "bind", "(II)I"⟩
abbrev cX8_copyToken : ByteArray := prog_10_method_29_code
def yX8_copyToken : MethodName := ⟨RX8, "copyToken", "(II)V"⟩
abbrev cX8_copy : ByteArray := prog_10_method_30_code
def yX8_copy : MethodName := ⟨RX8, "copy", "(II)I"⟩
abbrev cX8_drop : ByteArray := prog_10_method_31_code
def yX8_drop : MethodName := ⟨RX8, "drop", "(I)I"⟩
abbrev cX8_told : ByteArray := prog_10_method_32_code
def yX8_told : MethodName := ⟨RX8, "told", "(II)I"⟩
abbrev cX8_sign : ByteArray := prog_10_method_33_code
def yX8_sign : MethodName := ⟨RX8, "sign", "(II)I"⟩
abbrev cX8_spoil : ByteArray := prog_10_method_34_code
def yX8_spoil : MethodName := ⟨RX8, "spoil", "(IIII)I"⟩
abbrev cX8_ask : ByteArray := prog_10_method_35_code
def yX8_ask : MethodName := ⟨RX8, "ask", "(II)I"⟩
abbrev cX8_isDigit : ByteArray := prog_10_method_36_code
def yX8_isDigit : MethodName := ⟨RX8, "isDigit", "(I)Z"⟩
abbrev cX8_truthOf : ByteArray := prog_10_method_37_code
def yX8_truthOf : MethodName := ⟨RX8, "truthOf", "([III)I"⟩
abbrev cX8_truth : ByteArray := prog_10_method_38_code
def yX8_truth : MethodName := ⟨RX8, "truth", "(I)I"⟩
abbrev cX8_fail : ByteArray := prog_10_method_39_code
def yX8_fail : MethodName := ⟨RX8, "fail", "(III)I"⟩
abbrev cX8_isSame : ByteArray := prog_10_method_40_code
def yX8_isSame : MethodName := ⟨RX8, "isSame", "([II)Z"⟩
abbrev cX8_isNamed : ByteArray := prog_10_method_41_code
def yX8_isNamed : MethodName := ⟨RX8, "isNamed", "(II)Z"⟩
abbrev cX8_beginWalk : ByteArray := prog_10_method_42_code
def yX8_beginWalk : MethodName := ⟨RX8, "beginWalk", "(I)V"⟩
abbrev cX8_prove : ByteArray := prog_10_method_43_code
def yX8_prove : MethodName := ⟨RX8, "prove", "(III)I"⟩
abbrev cX8_walkOn : ByteArray := prog_10_method_44_code
def yX8_walkOn : MethodName := ⟨RX8, "walkOn", "(I)I"⟩
abbrev cX8_endWalk : ByteArray := prog_10_method_45_code
def yX8_endWalk : MethodName := ⟨RX8, "endWalk", "(III)I"⟩
abbrev cX8_fault : ByteArray := prog_10_method_46_code
def yX8_fault : MethodName := ⟨RX8, "fault", "(I)I"⟩
abbrev cX8_put : ByteArray := prog_10_method_47_code
def yX8_put : MethodName := ⟨RX8, "put", "(I)V"⟩
abbrev cX8_putRow : ByteArray := prog_10_method_48_code
def yX8_putRow : MethodName := ⟨RX8, "putRow", "(I[III)V"⟩
abbrev cX8_write : ByteArray := prog_10_method_49_code
def yX8_write : MethodName := ⟨RX8, "write", "(I)I"⟩
abbrev cX8_type : ByteArray := prog_10_method_50_code
def yX8_type : MethodName := ⟨RX8, "type", "(JI)I"⟩
abbrev cX8_tape : ByteArray := prog_10_method_51_code
def yX8_tape : MethodName := ⟨RX8, "tape", "(I)I"⟩
abbrev cX8_cut : ByteArray := prog_10_method_52_code
def yX8_cut : MethodName := ⟨RX8, "cut", "(I)I"⟩
abbrev cX8_forge : ByteArray := prog_10_method_53_code
def yX8_forge : MethodName := ⟨RX8, "forge", "(II)I"⟩
abbrev cX8_wrong : ByteArray := prog_10_method_54_code
def yX8_wrong : MethodName := ⟨RX8, "wrong", "(II)V"⟩
abbrev cX8_next : ByteArray := prog_10_method_55_code
def yX8_next : MethodName := ⟨RX8, "next", "()I"⟩
abbrev cX8_want : ByteArray := prog_10_method_56_code
def yX8_want : MethodName := ⟨RX8, "want", "(I)V"⟩
abbrev cX8_readRow : ByteArray := prog_10_method_57_code
def yX8_readRow : MethodName := ⟨RX8, "readRow", "([IIII)I"⟩
abbrev cX8_readLimit : ByteArray := prog_10_method_58_code
def yX8_readLimit : MethodName := ⟨RX8, "readLimit", "()V"⟩
abbrev cX8_read : ByteArray := prog_10_method_59_code
def yX8_read : MethodName := ⟨RX8, "read", "(I)I"⟩
abbrev cX8_place_ : ByteArray := prog_10_method_60_code
def yX8_place_ : MethodName := ⟨RX8, "place", "()I"⟩
def RJ9 : String := "java/lang/Math"
def TJ9 : u_T := fun k => match k with
  | _ => ("", "", "", false)
def tyJ9 : Nat → FieldType := fun k => match k with
  | _ => .int
abbrev wsJ90 : List Cond := u_ws RJ9 TJ9 0
theorem nmJ9 : ∀ a, a < 0 → ∀ b, b < 0 → a ≠ b → (TJ9 a).2.1 ≠ (TJ9 b).2.1 := by decide +kernel
theorem tyJ9_ok : ∀ k, k < 0 → parseFieldDescriptor (TJ9 k).2.2.1 = some (tyJ9 k) := by decide +kernel
abbrev cJ9_max_7cf53 : ByteArray := prog_11_method_65_code
def yJ9_max_7cf53 : MethodName := ⟨RJ9, "max", "(II)I"⟩
def RJ10 : String := "java/lang/System"
def TJ10 : u_T := fun k => match k with
  | _ => ("", "", "", false)
def tyJ10 : Nat → FieldType := fun k => match k with
  | _ => .int
abbrev wsJ100 : List Cond := u_ws RJ10 TJ10 0
theorem nmJ10 : ∀ a, a < 0 → ∀ b, b < 0 → a ≠ b → (TJ10 a).2.1 ≠ (TJ10 b).2.1 := by decide +kernel
theorem tyJ10_ok : ∀ k, k < 0 → parseFieldDescriptor (TJ10 k).2.2.1 = some (tyJ10 k) := by decide +kernel
def RL : String := "LimitTokensLaw"
abbrev cL_law : ByteArray := code
def yL_law : MethodName := ⟨RL, "law", "([I)Z"⟩
def wsX0_init : List Cond := .code yX0_init cX0_init 1 none :: ([.methodLink RX0 3 objectInit, .instanceMethod objectInit, .code objectInit ⟨#[0xb1]⟩ 1 none, .arrayClass .int, .fieldLink RX0 9 "LimitTokens$Judge" "request" "[I"] ++ wsX00)
def wsX3_byteAt : List Cond := .code yX3_byteAt cX3_byteAt 2 (some .int) :: ([.fieldLink RX3 21 "LimitTokens$Row" "length" "I", .fieldLink RX3 15 "LimitTokens$Row" "bytes" "[I"] ++ wsX30)
def wsX0_takeNumber : List Cond := .code yX0_takeNumber cX0_takeNumber 5 (some .int) :: ([.fieldLink RX0 15 "LimitTokens$Judge" "position" "I", .methodLink RX0 43 Lib.Math.max.name, .static Lib.Math.max.name, .initialized "java/lang/Math", .code Lib.Math.max.name Lib.Math.max.code 2 (some .int), .methodLink RX0 28 yX3_byteAt, .instanceMethod yX3_byteAt, .selects RX3 yX3_byteAt yX3_byteAt, .initialized RX3, .code yX3_byteAt cX3_byteAt 2 (some .int), .fieldLink RX3 21 "LimitTokens$Row" "length" "I", .fieldLink RX3 15 "LimitTokens$Row" "bytes" "[I"] ++ wsX00 ++ wsX30)
def wsX0_isKind : List Cond := .code yX0_isKind cX0_isKind 1 (some .boolean) :: ([])
def wsX0_holds : List Cond := .code yX0_holds cX0_holds 3 (some .boolean) :: ([])
def wsX0_judgeTest : List Cond := .code yX0_judgeTest cX0_judgeTest 6 (some .int) :: ([.fieldLink RX0 15 "LimitTokens$Judge" "position" "I", .fieldLink RX0 9 "LimitTokens$Judge" "request" "[I", .methodLink RX0 28 yX3_byteAt, .instanceMethod yX3_byteAt, .selects RX3 yX3_byteAt yX3_byteAt, .initialized RX3, .code yX3_byteAt cX3_byteAt 2 (some .int), .fieldLink RX3 21 "LimitTokens$Row" "length" "I", .fieldLink RX3 15 "LimitTokens$Row" "bytes" "[I", .methodLink RX0 32 yX0_takeNumber, .instanceMethod yX0_takeNumber, .selects RX0 yX0_takeNumber yX0_takeNumber, .initialized RX0, .code yX0_takeNumber cX0_takeNumber 5 (some .int), .methodLink RX0 43 Lib.Math.max.name, .static Lib.Math.max.name, .initialized "java/lang/Math", .code Lib.Math.max.name Lib.Math.max.code 2 (some .int), .methodLink RX0 35 yX0_isKind, .static yX0_isKind, .code yX0_isKind cX0_isKind 1 (some .boolean), .methodLink RX0 39 yX0_holds, .static yX0_holds, .code yX0_holds cX0_holds 3 (some .boolean)] ++ wsX00 ++ wsX30)
def wsX0_judgeText_r1 : List Cond := [Cond.fieldLink RX0 15 "LimitTokens$Judge" "position" "I", Cond.fieldLink RX0 19 "LimitTokens$Row" "length" "I", Cond.methodLink RX0 24 yX0_judgeTest, Cond.instanceMethod yX0_judgeTest, Cond.selects RX0 yX0_judgeTest yX0_judgeTest, Cond.initialized RX0, Cond.code yX0_judgeTest cX0_judgeTest 6 (some .int), Cond.fieldLink RX0 9 "LimitTokens$Judge" "request" "[I", Cond.methodLink RX0 28 yX3_byteAt, Cond.instanceMethod yX3_byteAt, Cond.selects RX3 yX3_byteAt yX3_byteAt, Cond.initialized RX3, Cond.code yX3_byteAt cX3_byteAt 2 (some .int), Cond.fieldLink RX3 21 "LimitTokens$Row" "length" "I", Cond.fieldLink RX3 15 "LimitTokens$Row" "bytes" "[I", Cond.methodLink RX0 32 yX0_takeNumber, Cond.instanceMethod yX0_takeNumber, Cond.selects RX0 yX0_takeNumber yX0_takeNumber, Cond.code yX0_takeNumber cX0_takeNumber 5 (some .int), Cond.methodLink RX0 43 Lib.Math.max.name, Cond.static Lib.Math.max.name, Cond.initialized "java/lang/Math", Cond.code Lib.Math.max.name Lib.Math.max.code 2 (some .int), Cond.methodLink RX0 35 yX0_isKind]
def wsX0_judgeText_r2 : List Cond := [Cond.static yX0_isKind, Cond.code yX0_isKind cX0_isKind 1 (some .boolean), Cond.methodLink RX0 39 yX0_holds, Cond.static yX0_holds, Cond.code yX0_holds cX0_holds 3 (some .boolean)]
def wsX0_judgeText : List Cond := .code yX0_judgeText cX0_judgeText 7 (some .int) :: ((wsX0_judgeText_r1 ++ wsX0_judgeText_r2) ++ wsX00 ++ wsX30)
def wsX3_init : List Cond := .code yX3_init cX3_init 2 none :: ([.methodLink RX3 3 objectInit, .instanceMethod objectInit, .code objectInit ⟨#[0xb1]⟩ 1 none, .methodLink RX3 9 Lib.Math.max.name, .static Lib.Math.max.name, .initialized "java/lang/Math", .code Lib.Math.max.name Lib.Math.max.code 2 (some .int), .arrayClass .int, .fieldLink RX3 15 "LimitTokens$Row" "bytes" "[I"] ++ wsX30)
def wsX1_init : List Cond := .code yX1_init cX1_init 1 none :: ([.methodLink RX1 3 objectInit, .instanceMethod objectInit, .code objectInit ⟨#[0xb1]⟩ 1 none, .classLink RX1 9 RX3, .instantiable RX3 2, .initialized RX3, .fieldLink RX1 14 "LimitTokens$Limit" "text" "LLimitTokens$Row;", .fieldLink RX1 20 "LimitTokens$Limit" "lock" "LLimitTokens$Row;", .methodLink RX1 11 yX3_init, .instanceMethod yX3_init, .code yX3_init cX3_init 2 none, .methodLink RX3 3 objectInit, .methodLink RX3 9 Lib.Math.max.name, .static Lib.Math.max.name, .initialized "java/lang/Math", .code Lib.Math.max.name Lib.Math.max.code 2 (some .int), .arrayClass .int, .fieldLink RX3 15 "LimitTokens$Row" "bytes" "[I"] ++ wsX30 ++ wsX10)
def wsX1_isOfOthers : List Cond := .code yX1_isOfOthers cX1_isOfOthers 1 (some .boolean) :: ([.fieldLink RX1 20 "LimitTokens$Limit" "lock" "LLimitTokens$Row;", .fieldLink RX1 23 "LimitTokens$Row" "length" "I"] ++ wsX10 ++ wsX30)
def wsX3_pushPart : List Cond := .code yX3_pushPart cX3_pushPart 4 none :: ([.fieldLink RX3 21 "LimitTokens$Row" "length" "I", .fieldLink RX3 15 "LimitTokens$Row" "bytes" "[I", .methodLink RX3 29 arraycopyName, .native arraycopyName, .static arraycopyName, .initialized "java/lang/System"] ++ wsX30)
def wsX3_takeOver : List Cond := .code yX3_takeOver cX3_takeOver 2 none :: ([.fieldLink RX3 21 "LimitTokens$Row" "length" "I", .methodLink RX3 25 yX3_pushPart, .instanceMethod yX3_pushPart, .selects RX3 yX3_pushPart yX3_pushPart, .initialized RX3, .code yX3_pushPart cX3_pushPart 4 none, .fieldLink RX3 15 "LimitTokens$Row" "bytes" "[I", .methodLink RX3 29 arraycopyName, .native arraycopyName, .static arraycopyName, .initialized "java/lang/System"] ++ wsX30)
def wsX1_takeOver : List Cond := .code yX1_takeOver cX1_takeOver 2 none :: ([.fieldLink RX1 14 "LimitTokens$Limit" "text" "LLimitTokens$Row;", .fieldLink RX1 20 "LimitTokens$Limit" "lock" "LLimitTokens$Row;", .methodLink RX1 27 yX3_takeOver, .instanceMethod yX3_takeOver, .selects RX3 yX3_takeOver yX3_takeOver, .initialized RX3, .code yX3_takeOver cX3_takeOver 2 none, .fieldLink RX3 21 "LimitTokens$Row" "length" "I", .methodLink RX3 25 yX3_pushPart, .instanceMethod yX3_pushPart, .selects RX3 yX3_pushPart yX3_pushPart, .code yX3_pushPart cX3_pushPart 4 none, .fieldLink RX3 15 "LimitTokens$Row" "bytes" "[I", .methodLink RX3 29 arraycopyName, .native arraycopyName, .static arraycopyName, .initialized "java/lang/System"] ++ wsX10 ++ wsX30)
def wsX3_push : List Cond := .code yX3_push cX3_push 2 none :: ([.fieldLink RX3 21 "LimitTokens$Row" "length" "I", .fieldLink RX3 15 "LimitTokens$Row" "bytes" "[I"] ++ wsX30)
def wsX3_pushAll : List Cond := .code yX3_pushAll cX3_pushAll 2 none :: ([.fieldLink RX3 21 "LimitTokens$Row" "length" "I", .methodLink RX3 25 yX3_pushPart, .instanceMethod yX3_pushPart, .selects RX3 yX3_pushPart yX3_pushPart, .initialized RX3, .code yX3_pushPart cX3_pushPart 4 none, .fieldLink RX3 15 "LimitTokens$Row" "bytes" "[I", .methodLink RX3 29 arraycopyName, .native arraycopyName, .static arraycopyName, .initialized "java/lang/System"] ++ wsX30)
def wsX1_putOn_r1 : List Cond := [Cond.fieldLink RX1 14 "LimitTokens$Limit" "text" "LLimitTokens$Row;", Cond.fieldLink RX1 23 "LimitTokens$Row" "length" "I", Cond.fieldLink RX1 20 "LimitTokens$Limit" "lock" "LLimitTokens$Row;", Cond.methodLink RX1 31 yX3_push, Cond.instanceMethod yX3_push, Cond.selects RX3 yX3_push yX3_push, Cond.initialized RX3, Cond.code yX3_push cX3_push 2 none, Cond.fieldLink RX3 21 "LimitTokens$Row" "length" "I", Cond.fieldLink RX3 15 "LimitTokens$Row" "bytes" "[I", Cond.methodLink RX1 34 yX3_pushAll, Cond.instanceMethod yX3_pushAll, Cond.selects RX3 yX3_pushAll yX3_pushAll, Cond.code yX3_pushAll cX3_pushAll 2 none, Cond.methodLink RX3 25 yX3_pushPart, Cond.instanceMethod yX3_pushPart, Cond.selects RX3 yX3_pushPart yX3_pushPart, Cond.code yX3_pushPart cX3_pushPart 4 none, Cond.methodLink RX3 29 arraycopyName, Cond.native arraycopyName, Cond.static arraycopyName, Cond.initialized "java/lang/System", Cond.methodLink RX1 37 yX1_isOfOthers, Cond.instanceMethod yX1_isOfOthers]
def wsX1_putOn_r2 : List Cond := [Cond.selects RX1 yX1_isOfOthers yX1_isOfOthers, Cond.initialized RX1, Cond.code yX1_isOfOthers cX1_isOfOthers 1 (some .boolean)]
def wsX1_putOn : List Cond := .code yX1_putOn cX1_putOn 2 none :: ((wsX1_putOn_r1 ++ wsX1_putOn_r2) ++ wsX10 ++ wsX30)
def wsX3_pushZeros : List Cond := .code yX3_pushZeros cX3_pushZeros 3 none :: ([.fieldLink RX3 21 "LimitTokens$Row" "length" "I", .fieldLink RX3 15 "LimitTokens$Row" "bytes" "[I"] ++ wsX30)
def wsX4_init_r1 : List Cond := [Cond.methodLink RX4 5 objectInit, Cond.instanceMethod objectInit, Cond.code objectInit ⟨#[0xb1]⟩ 1 none, Cond.arrayClass .int, Cond.fieldLink RX4 11 "LimitTokens$Sealer" "state" "[I", Cond.fieldLink RX4 15 "LimitTokens$Sealer" "words" "[I", Cond.classLink RX4 18 RX3, Cond.instantiable RX3 2, Cond.initialized RX3, Cond.fieldLink RX4 23 "LimitTokens$Sealer" "work" "LLimitTokens$Row;", Cond.fieldLink RX4 27 "LimitTokens$Sealer" "keyBlock" "LLimitTokens$Row;", Cond.fieldLink RX4 30 "LimitTokens$Sealer" "inner" "LLimitTokens$Row;", Cond.fieldLink RX4 33 "LimitTokens$Sealer" "pair" "LLimitTokens$Row;", Cond.fieldLink RX4 36 "LimitTokens$Sealer" "textSeal" "LLimitTokens$Row;", Cond.fieldLink RX4 39 "LimitTokens$Sealer" "lockSeal" "LLimitTokens$Row;", Cond.fieldLink RX4 42 "LimitTokens$Sealer" "zeroKey" "LLimitTokens$Row;", Cond.methodLink RX4 20 yX3_init, Cond.instanceMethod yX3_init, Cond.code yX3_init cX3_init 2 none, Cond.methodLink RX3 3 objectInit, Cond.methodLink RX3 9 Lib.Math.max.name, Cond.static Lib.Math.max.name, Cond.initialized "java/lang/Math", Cond.code Lib.Math.max.name Lib.Math.max.code 2 (some .int)]
def wsX4_init_r2 : List Cond := [Cond.fieldLink RX3 15 "LimitTokens$Row" "bytes" "[I", Cond.methodLink RX4 45 yX3_pushZeros, Cond.instanceMethod yX3_pushZeros, Cond.selects RX3 yX3_pushZeros yX3_pushZeros, Cond.code yX3_pushZeros cX3_pushZeros 3 none, Cond.fieldLink RX3 21 "LimitTokens$Row" "length" "I"]
def wsX4_init : List Cond := .code yX4_init cX4_init 1 none :: ((wsX4_init_r1 ++ wsX4_init_r2) ++ wsX40 ++ wsX30)
def wsX6_init_r1 : List Cond := [Cond.methodLink RX6 3 objectInit, Cond.instanceMethod objectInit, Cond.code objectInit ⟨#[0xb1]⟩ 1 none, Cond.classLink RX6 9 RX3, Cond.instantiable RX3 2, Cond.initialized RX3, Cond.fieldLink RX6 14 "LimitTokens$Token" "name" "LLimitTokens$Row;", Cond.fieldLink RX6 20 "LimitTokens$Token" "sign" "LLimitTokens$Row;", Cond.classLink RX6 23 RX1, Cond.fieldLink RX6 25 "LimitTokens$Token" "limits" "[LLimitTokens$Limit;", Cond.instantiable RX1 2, Cond.initialized RX1, Cond.methodLink RX6 11 yX3_init, Cond.instanceMethod yX3_init, Cond.code yX3_init cX3_init 2 none, Cond.methodLink RX3 3 objectInit, Cond.methodLink RX3 9 Lib.Math.max.name, Cond.static Lib.Math.max.name, Cond.initialized "java/lang/Math", Cond.code Lib.Math.max.name Lib.Math.max.code 2 (some .int), Cond.arrayClass .int, Cond.fieldLink RX3 15 "LimitTokens$Row" "bytes" "[I", Cond.instanceMethod yX1_init, Cond.code yX1_init cX1_init 1 none]
def wsX6_init_r2 : List Cond := [Cond.methodLink RX1 3 objectInit, Cond.classLink RX1 9 RX3, Cond.fieldLink RX1 14 "LimitTokens$Limit" "text" "LLimitTokens$Row;", Cond.fieldLink RX1 20 "LimitTokens$Limit" "lock" "LLimitTokens$Row;", Cond.methodLink RX1 11 yX3_init]
def wsX6_init : List Cond := .code yX6_init cX6_init 2 none :: ((wsX6_init_r1 ++ wsX6_init_r2) ++ wsX30 ++ wsX60 ++ wsX10)
def wsX2_init_r1 : List Cond := [Cond.methodLink RX2 3 objectInit, Cond.instanceMethod objectInit, Cond.code objectInit ⟨#[0xb1]⟩ 1 none, Cond.classLink RX2 9 RX6, Cond.fieldLink RX2 11 "LimitTokens$Prover" "tokens" "[LLimitTokens$Token;", Cond.classLink RX2 17 RX4, Cond.instantiable RX4 9, Cond.initialized RX4, Cond.fieldLink RX2 20 "LimitTokens$Prover" "sealer" "LLimitTokens$Sealer;", Cond.classLink RX2 24 RX0, Cond.instantiable RX0 2, Cond.initialized RX0, Cond.fieldLink RX2 27 "LimitTokens$Prover" "judge" "LLimitTokens$Judge;", Cond.classLink RX2 31 RX3, Cond.fieldLink RX2 33 "LimitTokens$Prover" "signs" "[LLimitTokens$Row;", Cond.fieldLink RX2 37 "LimitTokens$Prover" "keys" "[LLimitTokens$Row;", Cond.fieldLink RX2 40 "LimitTokens$Prover" "foundToken" "I", Cond.fieldLink RX2 44 "LimitTokens$Prover" "foundLimit" "I", Cond.fieldLink RX2 47 "LimitTokens$Prover" "begun" "I", Cond.instantiable RX6 5, Cond.initialized RX6, Cond.instantiable RX3 2, Cond.initialized RX3, Cond.methodLink RX2 19 yX4_init]
def wsX2_init_r2 : List Cond := [Cond.instanceMethod yX4_init, Cond.code yX4_init cX4_init 1 none, Cond.methodLink RX4 5 objectInit, Cond.arrayClass .int, Cond.fieldLink RX4 11 "LimitTokens$Sealer" "state" "[I", Cond.fieldLink RX4 15 "LimitTokens$Sealer" "words" "[I", Cond.classLink RX4 18 RX3, Cond.fieldLink RX4 23 "LimitTokens$Sealer" "work" "LLimitTokens$Row;", Cond.fieldLink RX4 27 "LimitTokens$Sealer" "keyBlock" "LLimitTokens$Row;", Cond.fieldLink RX4 30 "LimitTokens$Sealer" "inner" "LLimitTokens$Row;", Cond.fieldLink RX4 33 "LimitTokens$Sealer" "pair" "LLimitTokens$Row;", Cond.fieldLink RX4 36 "LimitTokens$Sealer" "textSeal" "LLimitTokens$Row;", Cond.fieldLink RX4 39 "LimitTokens$Sealer" "lockSeal" "LLimitTokens$Row;", Cond.fieldLink RX4 42 "LimitTokens$Sealer" "zeroKey" "LLimitTokens$Row;", Cond.methodLink RX4 20 yX3_init, Cond.instanceMethod yX3_init, Cond.code yX3_init cX3_init 2 none, Cond.methodLink RX3 3 objectInit, Cond.methodLink RX3 9 Lib.Math.max.name, Cond.static Lib.Math.max.name, Cond.initialized "java/lang/Math", Cond.code Lib.Math.max.name Lib.Math.max.code 2 (some .int), Cond.fieldLink RX3 15 "LimitTokens$Row" "bytes" "[I", Cond.methodLink RX4 45 yX3_pushZeros]
def wsX2_init_r3 : List Cond := [Cond.instanceMethod yX3_pushZeros, Cond.selects RX3 yX3_pushZeros yX3_pushZeros, Cond.code yX3_pushZeros cX3_pushZeros 3 none, Cond.fieldLink RX3 21 "LimitTokens$Row" "length" "I", Cond.instanceMethod yX0_init, Cond.code yX0_init cX0_init 1 none, Cond.methodLink RX0 3 objectInit, Cond.fieldLink RX0 9 "LimitTokens$Judge" "request" "[I", Cond.methodLink RX2 50 yX6_init, Cond.instanceMethod yX6_init, Cond.code yX6_init cX6_init 2 none, Cond.methodLink RX6 3 objectInit, Cond.classLink RX6 9 RX3, Cond.fieldLink RX6 14 "LimitTokens$Token" "name" "LLimitTokens$Row;", Cond.fieldLink RX6 20 "LimitTokens$Token" "sign" "LLimitTokens$Row;", Cond.classLink RX6 23 RX1, Cond.fieldLink RX6 25 "LimitTokens$Token" "limits" "[LLimitTokens$Limit;", Cond.instantiable RX1 2, Cond.initialized RX1, Cond.methodLink RX6 11 yX3_init, Cond.instanceMethod yX1_init, Cond.code yX1_init cX1_init 1 none, Cond.methodLink RX1 3 objectInit, Cond.classLink RX1 9 RX3]
def wsX2_init_r4 : List Cond := [Cond.fieldLink RX1 14 "LimitTokens$Limit" "text" "LLimitTokens$Row;", Cond.fieldLink RX1 20 "LimitTokens$Limit" "lock" "LLimitTokens$Row;", Cond.methodLink RX1 11 yX3_init, Cond.methodLink RX2 51 yX3_init]
def wsX2_init : List Cond := .code yX2_init cX2_init 2 none :: ((wsX2_init_r1 ++ (wsX2_init_r2 ++ (wsX2_init_r3 ++ wsX2_init_r4))) ++ wsX20 ++ wsX40 ++ wsX00 ++ wsX60 ++ wsX30 ++ wsX10)
def wsX2_begin : List Cond := .code yX2_begin cX2_begin 3 none :: ([.fieldLink RX2 54 "LimitTokens$Prover" "proved" "I", .fieldLink RX2 57 "LimitTokens$Prover" "waiting" "I", .fieldLink RX2 60 "LimitTokens$Prover" "found" "I", .fieldLink RX2 40 "LimitTokens$Prover" "foundToken" "I", .fieldLink RX2 44 "LimitTokens$Prover" "foundLimit" "I", .fieldLink RX2 47 "LimitTokens$Prover" "begun" "I"] ++ wsX20)
def wsX3_isSameAs : List Cond := .code yX3_isSameAs cX3_isSameAs 3 (some .boolean) :: ([.fieldLink RX3 21 "LimitTokens$Row" "length" "I", .fieldLink RX3 15 "LimitTokens$Row" "bytes" "[I"] ++ wsX30)
def wsX2_helperNamed : List Cond := .code yX2_helperNamed cX2_helperNamed 3 (some .int) :: ([.fieldLink RX2 57 "LimitTokens$Prover" "waiting" "I", .fieldLink RX2 11 "LimitTokens$Prover" "tokens" "[LLimitTokens$Token;", .fieldLink RX2 63 "LimitTokens$Token" "name" "LLimitTokens$Row;", .methodLink RX2 94 yX3_isSameAs, .instanceMethod yX3_isSameAs, .selects RX3 yX3_isSameAs yX3_isSameAs, .initialized RX3, .code yX3_isSameAs cX3_isSameAs 3 (some .boolean), .fieldLink RX3 21 "LimitTokens$Row" "length" "I", .fieldLink RX3 15 "LimitTokens$Row" "bytes" "[I"] ++ wsX20 ++ wsX60 ++ wsX30)
def wsX2_stopAt : List Cond := .code yX2_stopAt cX2_stopAt 4 (some .boolean) :: ([.fieldLink RX2 60 "LimitTokens$Prover" "found" "I", .fieldLink RX2 40 "LimitTokens$Prover" "foundToken" "I", .fieldLink RX2 44 "LimitTokens$Prover" "foundLimit" "I"] ++ wsX20)
def wsX3_pushWord : List Cond := .code yX3_pushWord cX3_pushWord 2 none :: ([.fieldLink RX3 21 "LimitTokens$Row" "length" "I", .fieldLink RX3 15 "LimitTokens$Row" "bytes" "[I"] ++ wsX30)
def wsX4_spreadWords : List Cond := .code yX4_spreadWords cX4_spreadWords 6 none :: ([.fieldLink RX4 23 "LimitTokens$Sealer" "work" "LLimitTokens$Row;", .fieldLink RX4 112 "LimitTokens$Row" "bytes" "[I", .fieldLink RX4 15 "LimitTokens$Sealer" "words" "[I"] ++ wsX40 ++ wsX30)
def wsX4_mixWords : List Cond := .code yX4_mixWords cX4_mixWords 12 none :: ([.fieldLink RX4 11 "LimitTokens$Sealer" "state" "[I", .fieldLink RX4 109 "LimitTokens$Sealer" "CUBE_ROOTS" "[I", .fieldLink RX4 15 "LimitTokens$Sealer" "words" "[I"] ++ wsX40)
def wsX3_makeEmpty : List Cond := .code yX3_makeEmpty cX3_makeEmpty 1 none :: ([.fieldLink RX3 21 "LimitTokens$Row" "length" "I"] ++ wsX30)
def wsX4_hashWork_r1 : List Cond := [Cond.fieldLink RX4 23 "LimitTokens$Sealer" "work" "LLimitTokens$Row;", Cond.fieldLink RX4 55 "LimitTokens$Row" "length" "I", Cond.fieldLink RX4 94 "LimitTokens$Sealer" "SQUARE_ROOTS" "[I", Cond.fieldLink RX4 11 "LimitTokens$Sealer" "state" "[I", Cond.methodLink RX4 97 arraycopyName, Cond.native arraycopyName, Cond.static arraycopyName, Cond.initialized "java/lang/System", Cond.methodLink RX4 88 yX3_push, Cond.instanceMethod yX3_push, Cond.selects RX3 yX3_push yX3_push, Cond.initialized RX3, Cond.code yX3_push cX3_push 2 none, Cond.fieldLink RX3 21 "LimitTokens$Row" "length" "I", Cond.fieldLink RX3 15 "LimitTokens$Row" "bytes" "[I", Cond.methodLink RX4 45 yX3_pushZeros, Cond.instanceMethod yX3_pushZeros, Cond.selects RX3 yX3_pushZeros yX3_pushZeros, Cond.code yX3_pushZeros cX3_pushZeros 3 none, Cond.methodLink RX4 91 yX3_pushWord, Cond.instanceMethod yX3_pushWord, Cond.selects RX3 yX3_pushWord yX3_pushWord, Cond.code yX3_pushWord cX3_pushWord 2 none, Cond.methodLink RX4 103 yX4_spreadWords]
def wsX4_hashWork_r2 : List Cond := [Cond.instanceMethod yX4_spreadWords, Cond.selects RX4 yX4_spreadWords yX4_spreadWords, Cond.initialized RX4, Cond.code yX4_spreadWords cX4_spreadWords 6 none, Cond.fieldLink RX4 112 "LimitTokens$Row" "bytes" "[I", Cond.fieldLink RX4 15 "LimitTokens$Sealer" "words" "[I", Cond.methodLink RX4 106 yX4_mixWords, Cond.instanceMethod yX4_mixWords, Cond.selects RX4 yX4_mixWords yX4_mixWords, Cond.code yX4_mixWords cX4_mixWords 12 none, Cond.fieldLink RX4 109 "LimitTokens$Sealer" "CUBE_ROOTS" "[I", Cond.methodLink RX4 85 yX3_makeEmpty, Cond.instanceMethod yX3_makeEmpty, Cond.selects RX3 yX3_makeEmpty yX3_makeEmpty, Cond.code yX3_makeEmpty cX3_makeEmpty 1 none]
def wsX4_hashWork : List Cond := .code yX4_hashWork cX4_hashWork 4 none :: ((wsX4_hashWork_r1 ++ wsX4_hashWork_r2) ++ wsX40 ++ wsX30)
def wsX4_startWork : List Cond := .code yX4_startWork cX4_startWork 3 none :: ([.fieldLink RX4 23 "LimitTokens$Sealer" "work" "LLimitTokens$Row;", .fieldLink RX4 27 "LimitTokens$Sealer" "keyBlock" "LLimitTokens$Row;", .fieldLink RX4 55 "LimitTokens$Row" "length" "I", .methodLink RX4 85 yX3_makeEmpty, .instanceMethod yX3_makeEmpty, .selects RX3 yX3_makeEmpty yX3_makeEmpty, .initialized RX3, .code yX3_makeEmpty cX3_makeEmpty 1 none, .fieldLink RX3 21 "LimitTokens$Row" "length" "I", .methodLink RX4 77 yX3_byteAt, .instanceMethod yX3_byteAt, .selects RX3 yX3_byteAt yX3_byteAt, .code yX3_byteAt cX3_byteAt 2 (some .int), .fieldLink RX3 15 "LimitTokens$Row" "bytes" "[I", .methodLink RX4 88 yX3_push, .instanceMethod yX3_push, .selects RX3 yX3_push yX3_push, .code yX3_push cX3_push 2 none] ++ wsX40 ++ wsX30)
def wsX4_sealInto_r1 : List Cond := [Cond.fieldLink RX4 55 "LimitTokens$Row" "length" "I", Cond.fieldLink RX4 23 "LimitTokens$Sealer" "work" "LLimitTokens$Row;", Cond.fieldLink RX4 27 "LimitTokens$Sealer" "keyBlock" "LLimitTokens$Row;", Cond.fieldLink RX4 30 "LimitTokens$Sealer" "inner" "LLimitTokens$Row;", Cond.methodLink RX4 48 yX3_takeOver, Cond.instanceMethod yX3_takeOver, Cond.selects RX3 yX3_takeOver yX3_takeOver, Cond.initialized RX3, Cond.code yX3_takeOver cX3_takeOver 2 none, Cond.fieldLink RX3 21 "LimitTokens$Row" "length" "I", Cond.methodLink RX3 25 yX3_pushPart, Cond.instanceMethod yX3_pushPart, Cond.selects RX3 yX3_pushPart yX3_pushPart, Cond.code yX3_pushPart cX3_pushPart 4 none, Cond.fieldLink RX3 15 "LimitTokens$Row" "bytes" "[I", Cond.methodLink RX3 29 arraycopyName, Cond.native arraycopyName, Cond.static arraycopyName, Cond.initialized "java/lang/System", Cond.methodLink RX4 52 yX4_hashWork, Cond.instanceMethod yX4_hashWork, Cond.selects RX4 yX4_hashWork yX4_hashWork, Cond.initialized RX4, Cond.code yX4_hashWork cX4_hashWork 4 none]
def wsX4_sealInto_r2 : List Cond := [Cond.fieldLink RX4 94 "LimitTokens$Sealer" "SQUARE_ROOTS" "[I", Cond.fieldLink RX4 11 "LimitTokens$Sealer" "state" "[I", Cond.methodLink RX4 97 arraycopyName, Cond.methodLink RX4 88 yX3_push, Cond.instanceMethod yX3_push, Cond.selects RX3 yX3_push yX3_push, Cond.code yX3_push cX3_push 2 none, Cond.methodLink RX4 45 yX3_pushZeros, Cond.instanceMethod yX3_pushZeros, Cond.selects RX3 yX3_pushZeros yX3_pushZeros, Cond.code yX3_pushZeros cX3_pushZeros 3 none, Cond.methodLink RX4 91 yX3_pushWord, Cond.instanceMethod yX3_pushWord, Cond.selects RX3 yX3_pushWord yX3_pushWord, Cond.code yX3_pushWord cX3_pushWord 2 none, Cond.methodLink RX4 103 yX4_spreadWords, Cond.instanceMethod yX4_spreadWords, Cond.selects RX4 yX4_spreadWords yX4_spreadWords, Cond.code yX4_spreadWords cX4_spreadWords 6 none, Cond.fieldLink RX4 112 "LimitTokens$Row" "bytes" "[I", Cond.fieldLink RX4 15 "LimitTokens$Sealer" "words" "[I", Cond.methodLink RX4 106 yX4_mixWords, Cond.instanceMethod yX4_mixWords, Cond.selects RX4 yX4_mixWords yX4_mixWords]
def wsX4_sealInto_r3 : List Cond := [Cond.code yX4_mixWords cX4_mixWords 12 none, Cond.fieldLink RX4 109 "LimitTokens$Sealer" "CUBE_ROOTS" "[I", Cond.methodLink RX4 85 yX3_makeEmpty, Cond.instanceMethod yX3_makeEmpty, Cond.selects RX3 yX3_makeEmpty yX3_makeEmpty, Cond.code yX3_makeEmpty cX3_makeEmpty 1 none, Cond.methodLink RX4 59 yX4_startWork, Cond.instanceMethod yX4_startWork, Cond.selects RX4 yX4_startWork yX4_startWork, Cond.code yX4_startWork cX4_startWork 3 none, Cond.methodLink RX4 77 yX3_byteAt, Cond.instanceMethod yX3_byteAt, Cond.selects RX3 yX3_byteAt yX3_byteAt, Cond.code yX3_byteAt cX3_byteAt 2 (some .int), Cond.methodLink RX4 62 yX3_pushAll, Cond.instanceMethod yX3_pushAll, Cond.selects RX3 yX3_pushAll yX3_pushAll, Cond.code yX3_pushAll cX3_pushAll 2 none]
def wsX4_sealInto : List Cond := .code yX4_sealInto cX4_sealInto 4 none :: ((wsX4_sealInto_r1 ++ (wsX4_sealInto_r2 ++ wsX4_sealInto_r3)) ++ wsX30 ++ wsX40)
def wsX3_has : List Cond := .code yX3_has cX3_has 2 (some .boolean) :: ([.fieldLink RX3 21 "LimitTokens$Row" "length" "I"] ++ wsX30)
def wsX3_flip : List Cond := .code yX3_flip cX3_flip 3 (some .int) :: ([.fieldLink RX3 15 "LimitTokens$Row" "bytes" "[I", .methodLink RX3 35 yX3_has, .instanceMethod yX3_has, .selects RX3 yX3_has yX3_has, .initialized RX3, .code yX3_has cX3_has 2 (some .boolean), .fieldLink RX3 21 "LimitTokens$Row" "length" "I"] ++ wsX30)
def wsX4_turnKey_r1 : List Cond := [Cond.fieldLink RX4 36 "LimitTokens$Sealer" "textSeal" "LLimitTokens$Row;", Cond.methodLink RX4 70 yX4_sealInto, Cond.instanceMethod yX4_sealInto, Cond.selects RX4 yX4_sealInto yX4_sealInto, Cond.initialized RX4, Cond.code yX4_sealInto cX4_sealInto 4 none, Cond.fieldLink RX4 55 "LimitTokens$Row" "length" "I", Cond.fieldLink RX4 23 "LimitTokens$Sealer" "work" "LLimitTokens$Row;", Cond.fieldLink RX4 27 "LimitTokens$Sealer" "keyBlock" "LLimitTokens$Row;", Cond.fieldLink RX4 30 "LimitTokens$Sealer" "inner" "LLimitTokens$Row;", Cond.methodLink RX4 48 yX3_takeOver, Cond.instanceMethod yX3_takeOver, Cond.selects RX3 yX3_takeOver yX3_takeOver, Cond.initialized RX3, Cond.code yX3_takeOver cX3_takeOver 2 none, Cond.fieldLink RX3 21 "LimitTokens$Row" "length" "I", Cond.methodLink RX3 25 yX3_pushPart, Cond.instanceMethod yX3_pushPart, Cond.selects RX3 yX3_pushPart yX3_pushPart, Cond.code yX3_pushPart cX3_pushPart 4 none, Cond.fieldLink RX3 15 "LimitTokens$Row" "bytes" "[I", Cond.methodLink RX3 29 arraycopyName, Cond.native arraycopyName, Cond.static arraycopyName]
def wsX4_turnKey_r2 : List Cond := [Cond.initialized "java/lang/System", Cond.methodLink RX4 52 yX4_hashWork, Cond.instanceMethod yX4_hashWork, Cond.selects RX4 yX4_hashWork yX4_hashWork, Cond.code yX4_hashWork cX4_hashWork 4 none, Cond.fieldLink RX4 94 "LimitTokens$Sealer" "SQUARE_ROOTS" "[I", Cond.fieldLink RX4 11 "LimitTokens$Sealer" "state" "[I", Cond.methodLink RX4 97 arraycopyName, Cond.methodLink RX4 88 yX3_push, Cond.instanceMethod yX3_push, Cond.selects RX3 yX3_push yX3_push, Cond.code yX3_push cX3_push 2 none, Cond.methodLink RX4 45 yX3_pushZeros, Cond.instanceMethod yX3_pushZeros, Cond.selects RX3 yX3_pushZeros yX3_pushZeros, Cond.code yX3_pushZeros cX3_pushZeros 3 none, Cond.methodLink RX4 91 yX3_pushWord, Cond.instanceMethod yX3_pushWord, Cond.selects RX3 yX3_pushWord yX3_pushWord, Cond.code yX3_pushWord cX3_pushWord 2 none, Cond.methodLink RX4 103 yX4_spreadWords, Cond.instanceMethod yX4_spreadWords, Cond.selects RX4 yX4_spreadWords yX4_spreadWords, Cond.code yX4_spreadWords cX4_spreadWords 6 none]
def wsX4_turnKey_r3 : List Cond := [Cond.fieldLink RX4 112 "LimitTokens$Row" "bytes" "[I", Cond.fieldLink RX4 15 "LimitTokens$Sealer" "words" "[I", Cond.methodLink RX4 106 yX4_mixWords, Cond.instanceMethod yX4_mixWords, Cond.selects RX4 yX4_mixWords yX4_mixWords, Cond.code yX4_mixWords cX4_mixWords 12 none, Cond.fieldLink RX4 109 "LimitTokens$Sealer" "CUBE_ROOTS" "[I", Cond.methodLink RX4 85 yX3_makeEmpty, Cond.instanceMethod yX3_makeEmpty, Cond.selects RX3 yX3_makeEmpty yX3_makeEmpty, Cond.code yX3_makeEmpty cX3_makeEmpty 1 none, Cond.methodLink RX4 59 yX4_startWork, Cond.instanceMethod yX4_startWork, Cond.selects RX4 yX4_startWork yX4_startWork, Cond.code yX4_startWork cX4_startWork 3 none, Cond.methodLink RX4 77 yX3_byteAt, Cond.instanceMethod yX3_byteAt, Cond.selects RX3 yX3_byteAt yX3_byteAt, Cond.code yX3_byteAt cX3_byteAt 2 (some .int), Cond.methodLink RX4 62 yX3_pushAll, Cond.instanceMethod yX3_pushAll, Cond.selects RX3 yX3_pushAll yX3_pushAll, Cond.code yX3_pushAll cX3_pushAll 2 none, Cond.methodLink RX4 81 yX3_flip]
def wsX4_turnKey_r4 : List Cond := [Cond.instanceMethod yX3_flip, Cond.selects RX3 yX3_flip yX3_flip, Cond.code yX3_flip cX3_flip 3 (some .int), Cond.methodLink RX3 35 yX3_has, Cond.instanceMethod yX3_has, Cond.selects RX3 yX3_has yX3_has, Cond.code yX3_has cX3_has 2 (some .boolean)]
def wsX4_turnKey : List Cond := .code yX4_turnKey cX4_turnKey 6 none :: ((wsX4_turnKey_r1 ++ (wsX4_turnKey_r2 ++ (wsX4_turnKey_r3 ++ wsX4_turnKey_r4))) ++ wsX40 ++ wsX30)
def wsX4_bindSign_r1 : List Cond := [Cond.fieldLink RX4 33 "LimitTokens$Sealer" "pair" "LLimitTokens$Row;", Cond.fieldLink RX4 42 "LimitTokens$Sealer" "zeroKey" "LLimitTokens$Row;", Cond.methodLink RX4 48 yX3_takeOver, Cond.instanceMethod yX3_takeOver, Cond.selects RX3 yX3_takeOver yX3_takeOver, Cond.initialized RX3, Cond.code yX3_takeOver cX3_takeOver 2 none, Cond.fieldLink RX3 21 "LimitTokens$Row" "length" "I", Cond.methodLink RX3 25 yX3_pushPart, Cond.instanceMethod yX3_pushPart, Cond.selects RX3 yX3_pushPart yX3_pushPart, Cond.code yX3_pushPart cX3_pushPart 4 none, Cond.fieldLink RX3 15 "LimitTokens$Row" "bytes" "[I", Cond.methodLink RX3 29 arraycopyName, Cond.native arraycopyName, Cond.static arraycopyName, Cond.initialized "java/lang/System", Cond.methodLink RX4 62 yX3_pushAll, Cond.instanceMethod yX3_pushAll, Cond.selects RX3 yX3_pushAll yX3_pushAll, Cond.code yX3_pushAll cX3_pushAll 2 none, Cond.methodLink RX4 70 yX4_sealInto, Cond.instanceMethod yX4_sealInto, Cond.selects RX4 yX4_sealInto yX4_sealInto]
def wsX4_bindSign_r2 : List Cond := [Cond.initialized RX4, Cond.code yX4_sealInto cX4_sealInto 4 none, Cond.fieldLink RX4 55 "LimitTokens$Row" "length" "I", Cond.fieldLink RX4 23 "LimitTokens$Sealer" "work" "LLimitTokens$Row;", Cond.fieldLink RX4 27 "LimitTokens$Sealer" "keyBlock" "LLimitTokens$Row;", Cond.fieldLink RX4 30 "LimitTokens$Sealer" "inner" "LLimitTokens$Row;", Cond.methodLink RX4 52 yX4_hashWork, Cond.instanceMethod yX4_hashWork, Cond.selects RX4 yX4_hashWork yX4_hashWork, Cond.code yX4_hashWork cX4_hashWork 4 none, Cond.fieldLink RX4 94 "LimitTokens$Sealer" "SQUARE_ROOTS" "[I", Cond.fieldLink RX4 11 "LimitTokens$Sealer" "state" "[I", Cond.methodLink RX4 97 arraycopyName, Cond.methodLink RX4 88 yX3_push, Cond.instanceMethod yX3_push, Cond.selects RX3 yX3_push yX3_push, Cond.code yX3_push cX3_push 2 none, Cond.methodLink RX4 45 yX3_pushZeros, Cond.instanceMethod yX3_pushZeros, Cond.selects RX3 yX3_pushZeros yX3_pushZeros, Cond.code yX3_pushZeros cX3_pushZeros 3 none, Cond.methodLink RX4 91 yX3_pushWord, Cond.instanceMethod yX3_pushWord, Cond.selects RX3 yX3_pushWord yX3_pushWord]
def wsX4_bindSign_r3 : List Cond := [Cond.code yX3_pushWord cX3_pushWord 2 none, Cond.methodLink RX4 103 yX4_spreadWords, Cond.instanceMethod yX4_spreadWords, Cond.selects RX4 yX4_spreadWords yX4_spreadWords, Cond.code yX4_spreadWords cX4_spreadWords 6 none, Cond.fieldLink RX4 112 "LimitTokens$Row" "bytes" "[I", Cond.fieldLink RX4 15 "LimitTokens$Sealer" "words" "[I", Cond.methodLink RX4 106 yX4_mixWords, Cond.instanceMethod yX4_mixWords, Cond.selects RX4 yX4_mixWords yX4_mixWords, Cond.code yX4_mixWords cX4_mixWords 12 none, Cond.fieldLink RX4 109 "LimitTokens$Sealer" "CUBE_ROOTS" "[I", Cond.methodLink RX4 85 yX3_makeEmpty, Cond.instanceMethod yX3_makeEmpty, Cond.selects RX3 yX3_makeEmpty yX3_makeEmpty, Cond.code yX3_makeEmpty cX3_makeEmpty 1 none, Cond.methodLink RX4 59 yX4_startWork, Cond.instanceMethod yX4_startWork, Cond.selects RX4 yX4_startWork yX4_startWork, Cond.code yX4_startWork cX4_startWork 3 none, Cond.methodLink RX4 77 yX3_byteAt, Cond.instanceMethod yX3_byteAt, Cond.selects RX3 yX3_byteAt yX3_byteAt, Cond.code yX3_byteAt cX3_byteAt 2 (some .int)]
def wsX4_bindSign : List Cond := .code yX4_bindSign cX4_bindSign 3 none :: ((wsX4_bindSign_r1 ++ (wsX4_bindSign_r2 ++ wsX4_bindSign_r3)) ++ wsX40 ++ wsX30)
def wsX4_goOnOthers_r1 : List Cond := [Cond.fieldLink RX4 39 "LimitTokens$Sealer" "lockSeal" "LLimitTokens$Row;", Cond.fieldLink RX4 74 "LimitTokens$Limit" "lock" "LLimitTokens$Row;", Cond.fieldLink RX4 36 "LimitTokens$Sealer" "textSeal" "LLimitTokens$Row;", Cond.fieldLink RX4 65 "LimitTokens$Limit" "text" "LLimitTokens$Row;", Cond.fieldLink RX4 33 "LimitTokens$Sealer" "pair" "LLimitTokens$Row;", Cond.methodLink RX4 70 yX4_sealInto, Cond.instanceMethod yX4_sealInto, Cond.selects RX4 yX4_sealInto yX4_sealInto, Cond.initialized RX4, Cond.code yX4_sealInto cX4_sealInto 4 none, Cond.fieldLink RX4 55 "LimitTokens$Row" "length" "I", Cond.fieldLink RX4 23 "LimitTokens$Sealer" "work" "LLimitTokens$Row;", Cond.fieldLink RX4 27 "LimitTokens$Sealer" "keyBlock" "LLimitTokens$Row;", Cond.fieldLink RX4 30 "LimitTokens$Sealer" "inner" "LLimitTokens$Row;", Cond.methodLink RX4 48 yX3_takeOver, Cond.instanceMethod yX3_takeOver, Cond.selects RX3 yX3_takeOver yX3_takeOver, Cond.initialized RX3, Cond.code yX3_takeOver cX3_takeOver 2 none, Cond.fieldLink RX3 21 "LimitTokens$Row" "length" "I", Cond.methodLink RX3 25 yX3_pushPart, Cond.instanceMethod yX3_pushPart, Cond.selects RX3 yX3_pushPart yX3_pushPart, Cond.code yX3_pushPart cX3_pushPart 4 none]
def wsX4_goOnOthers_r2 : List Cond := [Cond.fieldLink RX3 15 "LimitTokens$Row" "bytes" "[I", Cond.methodLink RX3 29 arraycopyName, Cond.native arraycopyName, Cond.static arraycopyName, Cond.initialized "java/lang/System", Cond.methodLink RX4 52 yX4_hashWork, Cond.instanceMethod yX4_hashWork, Cond.selects RX4 yX4_hashWork yX4_hashWork, Cond.code yX4_hashWork cX4_hashWork 4 none, Cond.fieldLink RX4 94 "LimitTokens$Sealer" "SQUARE_ROOTS" "[I", Cond.fieldLink RX4 11 "LimitTokens$Sealer" "state" "[I", Cond.methodLink RX4 97 arraycopyName, Cond.methodLink RX4 88 yX3_push, Cond.instanceMethod yX3_push, Cond.selects RX3 yX3_push yX3_push, Cond.code yX3_push cX3_push 2 none, Cond.methodLink RX4 45 yX3_pushZeros, Cond.instanceMethod yX3_pushZeros, Cond.selects RX3 yX3_pushZeros yX3_pushZeros, Cond.code yX3_pushZeros cX3_pushZeros 3 none, Cond.methodLink RX4 91 yX3_pushWord, Cond.instanceMethod yX3_pushWord, Cond.selects RX3 yX3_pushWord yX3_pushWord, Cond.code yX3_pushWord cX3_pushWord 2 none]
def wsX4_goOnOthers_r3 : List Cond := [Cond.methodLink RX4 103 yX4_spreadWords, Cond.instanceMethod yX4_spreadWords, Cond.selects RX4 yX4_spreadWords yX4_spreadWords, Cond.code yX4_spreadWords cX4_spreadWords 6 none, Cond.fieldLink RX4 112 "LimitTokens$Row" "bytes" "[I", Cond.fieldLink RX4 15 "LimitTokens$Sealer" "words" "[I", Cond.methodLink RX4 106 yX4_mixWords, Cond.instanceMethod yX4_mixWords, Cond.selects RX4 yX4_mixWords yX4_mixWords, Cond.code yX4_mixWords cX4_mixWords 12 none, Cond.fieldLink RX4 109 "LimitTokens$Sealer" "CUBE_ROOTS" "[I", Cond.methodLink RX4 85 yX3_makeEmpty, Cond.instanceMethod yX3_makeEmpty, Cond.selects RX3 yX3_makeEmpty yX3_makeEmpty, Cond.code yX3_makeEmpty cX3_makeEmpty 1 none, Cond.methodLink RX4 59 yX4_startWork, Cond.instanceMethod yX4_startWork, Cond.selects RX4 yX4_startWork yX4_startWork, Cond.code yX4_startWork cX4_startWork 3 none, Cond.methodLink RX4 77 yX3_byteAt, Cond.instanceMethod yX3_byteAt, Cond.selects RX3 yX3_byteAt yX3_byteAt, Cond.code yX3_byteAt cX3_byteAt 2 (some .int), Cond.methodLink RX4 62 yX3_pushAll]
def wsX4_goOnOthers_r4 : List Cond := [Cond.instanceMethod yX3_pushAll, Cond.selects RX3 yX3_pushAll yX3_pushAll, Cond.code yX3_pushAll cX3_pushAll 2 none]
def wsX4_goOnOthers : List Cond := .code yX4_goOnOthers cX4_goOnOthers 3 none :: ((wsX4_goOnOthers_r1 ++ (wsX4_goOnOthers_r2 ++ (wsX4_goOnOthers_r3 ++ wsX4_goOnOthers_r4))) ++ wsX40 ++ wsX10 ++ wsX30)
def wsX4_goOnOwn_r1 : List Cond := [Cond.fieldLink RX4 65 "LimitTokens$Limit" "text" "LLimitTokens$Row;", Cond.methodLink RX4 70 yX4_sealInto, Cond.instanceMethod yX4_sealInto, Cond.selects RX4 yX4_sealInto yX4_sealInto, Cond.initialized RX4, Cond.code yX4_sealInto cX4_sealInto 4 none, Cond.fieldLink RX4 55 "LimitTokens$Row" "length" "I", Cond.fieldLink RX4 23 "LimitTokens$Sealer" "work" "LLimitTokens$Row;", Cond.fieldLink RX4 27 "LimitTokens$Sealer" "keyBlock" "LLimitTokens$Row;", Cond.fieldLink RX4 30 "LimitTokens$Sealer" "inner" "LLimitTokens$Row;", Cond.methodLink RX4 48 yX3_takeOver, Cond.instanceMethod yX3_takeOver, Cond.selects RX3 yX3_takeOver yX3_takeOver, Cond.initialized RX3, Cond.code yX3_takeOver cX3_takeOver 2 none, Cond.fieldLink RX3 21 "LimitTokens$Row" "length" "I", Cond.methodLink RX3 25 yX3_pushPart, Cond.instanceMethod yX3_pushPart, Cond.selects RX3 yX3_pushPart yX3_pushPart, Cond.code yX3_pushPart cX3_pushPart 4 none, Cond.fieldLink RX3 15 "LimitTokens$Row" "bytes" "[I", Cond.methodLink RX3 29 arraycopyName, Cond.native arraycopyName, Cond.static arraycopyName]
def wsX4_goOnOwn_r2 : List Cond := [Cond.initialized "java/lang/System", Cond.methodLink RX4 52 yX4_hashWork, Cond.instanceMethod yX4_hashWork, Cond.selects RX4 yX4_hashWork yX4_hashWork, Cond.code yX4_hashWork cX4_hashWork 4 none, Cond.fieldLink RX4 94 "LimitTokens$Sealer" "SQUARE_ROOTS" "[I", Cond.fieldLink RX4 11 "LimitTokens$Sealer" "state" "[I", Cond.methodLink RX4 97 arraycopyName, Cond.methodLink RX4 88 yX3_push, Cond.instanceMethod yX3_push, Cond.selects RX3 yX3_push yX3_push, Cond.code yX3_push cX3_push 2 none, Cond.methodLink RX4 45 yX3_pushZeros, Cond.instanceMethod yX3_pushZeros, Cond.selects RX3 yX3_pushZeros yX3_pushZeros, Cond.code yX3_pushZeros cX3_pushZeros 3 none, Cond.methodLink RX4 91 yX3_pushWord, Cond.instanceMethod yX3_pushWord, Cond.selects RX3 yX3_pushWord yX3_pushWord, Cond.code yX3_pushWord cX3_pushWord 2 none, Cond.methodLink RX4 103 yX4_spreadWords, Cond.instanceMethod yX4_spreadWords, Cond.selects RX4 yX4_spreadWords yX4_spreadWords, Cond.code yX4_spreadWords cX4_spreadWords 6 none]
def wsX4_goOnOwn_r3 : List Cond := [Cond.fieldLink RX4 112 "LimitTokens$Row" "bytes" "[I", Cond.fieldLink RX4 15 "LimitTokens$Sealer" "words" "[I", Cond.methodLink RX4 106 yX4_mixWords, Cond.instanceMethod yX4_mixWords, Cond.selects RX4 yX4_mixWords yX4_mixWords, Cond.code yX4_mixWords cX4_mixWords 12 none, Cond.fieldLink RX4 109 "LimitTokens$Sealer" "CUBE_ROOTS" "[I", Cond.methodLink RX4 85 yX3_makeEmpty, Cond.instanceMethod yX3_makeEmpty, Cond.selects RX3 yX3_makeEmpty yX3_makeEmpty, Cond.code yX3_makeEmpty cX3_makeEmpty 1 none, Cond.methodLink RX4 59 yX4_startWork, Cond.instanceMethod yX4_startWork, Cond.selects RX4 yX4_startWork yX4_startWork, Cond.code yX4_startWork cX4_startWork 3 none, Cond.methodLink RX4 77 yX3_byteAt, Cond.instanceMethod yX3_byteAt, Cond.selects RX3 yX3_byteAt yX3_byteAt, Cond.code yX3_byteAt cX3_byteAt 2 (some .int), Cond.methodLink RX4 62 yX3_pushAll, Cond.instanceMethod yX3_pushAll, Cond.selects RX3 yX3_pushAll yX3_pushAll, Cond.code yX3_pushAll cX3_pushAll 2 none]
def wsX4_goOnOwn : List Cond := .code yX4_goOnOwn cX4_goOnOwn 3 none :: ((wsX4_goOnOwn_r1 ++ (wsX4_goOnOwn_r2 ++ wsX4_goOnOwn_r3)) ++ wsX10 ++ wsX30 ++ wsX40)
def wsX2_passOwn_r1 : List Cond := [Cond.fieldLink RX2 11 "LimitTokens$Prover" "tokens" "[LLimitTokens$Token;", Cond.fieldLink RX2 74 "LimitTokens$Token" "limits" "[LLimitTokens$Limit;", Cond.fieldLink RX2 27 "LimitTokens$Prover" "judge" "LLimitTokens$Judge;", Cond.fieldLink RX2 101 "LimitTokens$Limit" "text" "LLimitTokens$Row;", Cond.fieldLink RX2 20 "LimitTokens$Prover" "sealer" "LLimitTokens$Sealer;", Cond.fieldLink RX2 33 "LimitTokens$Prover" "signs" "[LLimitTokens$Row;", Cond.methodLink RX2 104 yX0_judgeText, Cond.instanceMethod yX0_judgeText, Cond.selects RX0 yX0_judgeText yX0_judgeText, Cond.initialized RX0, Cond.code yX0_judgeText cX0_judgeText 7 (some .int), Cond.fieldLink RX0 15 "LimitTokens$Judge" "position" "I", Cond.fieldLink RX0 19 "LimitTokens$Row" "length" "I", Cond.methodLink RX0 24 yX0_judgeTest, Cond.instanceMethod yX0_judgeTest, Cond.selects RX0 yX0_judgeTest yX0_judgeTest, Cond.code yX0_judgeTest cX0_judgeTest 6 (some .int), Cond.fieldLink RX0 9 "LimitTokens$Judge" "request" "[I", Cond.methodLink RX0 28 yX3_byteAt, Cond.instanceMethod yX3_byteAt, Cond.selects RX3 yX3_byteAt yX3_byteAt, Cond.initialized RX3, Cond.code yX3_byteAt cX3_byteAt 2 (some .int), Cond.fieldLink RX3 21 "LimitTokens$Row" "length" "I"]
def wsX2_passOwn_r2 : List Cond := [Cond.fieldLink RX3 15 "LimitTokens$Row" "bytes" "[I", Cond.methodLink RX0 32 yX0_takeNumber, Cond.instanceMethod yX0_takeNumber, Cond.selects RX0 yX0_takeNumber yX0_takeNumber, Cond.code yX0_takeNumber cX0_takeNumber 5 (some .int), Cond.methodLink RX0 43 Lib.Math.max.name, Cond.static Lib.Math.max.name, Cond.initialized "java/lang/Math", Cond.code Lib.Math.max.name Lib.Math.max.code 2 (some .int), Cond.methodLink RX0 35 yX0_isKind, Cond.static yX0_isKind, Cond.code yX0_isKind cX0_isKind 1 (some .boolean), Cond.methodLink RX0 39 yX0_holds, Cond.static yX0_holds, Cond.code yX0_holds cX0_holds 3 (some .boolean), Cond.methodLink RX2 98 yX2_stopAt, Cond.instanceMethod yX2_stopAt, Cond.selects RX2 yX2_stopAt yX2_stopAt, Cond.initialized RX2, Cond.code yX2_stopAt cX2_stopAt 4 (some .boolean), Cond.fieldLink RX2 60 "LimitTokens$Prover" "found" "I", Cond.fieldLink RX2 40 "LimitTokens$Prover" "foundToken" "I", Cond.fieldLink RX2 44 "LimitTokens$Prover" "foundLimit" "I", Cond.methodLink RX2 108 yX4_goOnOwn]
def wsX2_passOwn_r3 : List Cond := [Cond.instanceMethod yX4_goOnOwn, Cond.selects RX4 yX4_goOnOwn yX4_goOnOwn, Cond.initialized RX4, Cond.code yX4_goOnOwn cX4_goOnOwn 3 none, Cond.fieldLink RX4 65 "LimitTokens$Limit" "text" "LLimitTokens$Row;", Cond.methodLink RX4 70 yX4_sealInto, Cond.instanceMethod yX4_sealInto, Cond.selects RX4 yX4_sealInto yX4_sealInto, Cond.code yX4_sealInto cX4_sealInto 4 none, Cond.fieldLink RX4 55 "LimitTokens$Row" "length" "I", Cond.fieldLink RX4 23 "LimitTokens$Sealer" "work" "LLimitTokens$Row;", Cond.fieldLink RX4 27 "LimitTokens$Sealer" "keyBlock" "LLimitTokens$Row;", Cond.fieldLink RX4 30 "LimitTokens$Sealer" "inner" "LLimitTokens$Row;", Cond.methodLink RX4 48 yX3_takeOver, Cond.instanceMethod yX3_takeOver, Cond.selects RX3 yX3_takeOver yX3_takeOver, Cond.code yX3_takeOver cX3_takeOver 2 none, Cond.methodLink RX3 25 yX3_pushPart, Cond.instanceMethod yX3_pushPart, Cond.selects RX3 yX3_pushPart yX3_pushPart, Cond.code yX3_pushPart cX3_pushPart 4 none, Cond.methodLink RX3 29 arraycopyName, Cond.native arraycopyName, Cond.static arraycopyName]
def wsX2_passOwn_r4 : List Cond := [Cond.initialized "java/lang/System", Cond.methodLink RX4 52 yX4_hashWork, Cond.instanceMethod yX4_hashWork, Cond.selects RX4 yX4_hashWork yX4_hashWork, Cond.code yX4_hashWork cX4_hashWork 4 none, Cond.fieldLink RX4 94 "LimitTokens$Sealer" "SQUARE_ROOTS" "[I", Cond.fieldLink RX4 11 "LimitTokens$Sealer" "state" "[I", Cond.methodLink RX4 97 arraycopyName, Cond.methodLink RX4 88 yX3_push, Cond.instanceMethod yX3_push, Cond.selects RX3 yX3_push yX3_push, Cond.code yX3_push cX3_push 2 none, Cond.methodLink RX4 45 yX3_pushZeros, Cond.instanceMethod yX3_pushZeros, Cond.selects RX3 yX3_pushZeros yX3_pushZeros, Cond.code yX3_pushZeros cX3_pushZeros 3 none, Cond.methodLink RX4 91 yX3_pushWord, Cond.instanceMethod yX3_pushWord, Cond.selects RX3 yX3_pushWord yX3_pushWord, Cond.code yX3_pushWord cX3_pushWord 2 none, Cond.methodLink RX4 103 yX4_spreadWords, Cond.instanceMethod yX4_spreadWords, Cond.selects RX4 yX4_spreadWords yX4_spreadWords, Cond.code yX4_spreadWords cX4_spreadWords 6 none]
def wsX2_passOwn_r5 : List Cond := [Cond.fieldLink RX4 112 "LimitTokens$Row" "bytes" "[I", Cond.fieldLink RX4 15 "LimitTokens$Sealer" "words" "[I", Cond.methodLink RX4 106 yX4_mixWords, Cond.instanceMethod yX4_mixWords, Cond.selects RX4 yX4_mixWords yX4_mixWords, Cond.code yX4_mixWords cX4_mixWords 12 none, Cond.fieldLink RX4 109 "LimitTokens$Sealer" "CUBE_ROOTS" "[I", Cond.methodLink RX4 85 yX3_makeEmpty, Cond.instanceMethod yX3_makeEmpty, Cond.selects RX3 yX3_makeEmpty yX3_makeEmpty, Cond.code yX3_makeEmpty cX3_makeEmpty 1 none, Cond.methodLink RX4 59 yX4_startWork, Cond.instanceMethod yX4_startWork, Cond.selects RX4 yX4_startWork yX4_startWork, Cond.code yX4_startWork cX4_startWork 3 none, Cond.methodLink RX4 77 yX3_byteAt, Cond.methodLink RX4 62 yX3_pushAll, Cond.instanceMethod yX3_pushAll, Cond.selects RX3 yX3_pushAll yX3_pushAll, Cond.code yX3_pushAll cX3_pushAll 2 none]
def wsX2_passOwn : List Cond := .code yX2_passOwn cX2_passOwn 6 (some .boolean) :: ((wsX2_passOwn_r1 ++ (wsX2_passOwn_r2 ++ (wsX2_passOwn_r3 ++ (wsX2_passOwn_r4 ++ wsX2_passOwn_r5)))) ++ wsX20 ++ wsX60 ++ wsX10 ++ wsX00 ++ wsX30 ++ wsX40)
def wsX2_passOthers_r1 : List Cond := [Cond.fieldLink RX2 11 "LimitTokens$Prover" "tokens" "[LLimitTokens$Token;", Cond.fieldLink RX2 74 "LimitTokens$Token" "limits" "[LLimitTokens$Limit;", Cond.fieldLink RX2 101 "LimitTokens$Limit" "text" "LLimitTokens$Row;", Cond.fieldLink RX2 57 "LimitTokens$Prover" "waiting" "I", Cond.fieldLink RX2 47 "LimitTokens$Prover" "begun" "I", Cond.fieldLink RX2 20 "LimitTokens$Prover" "sealer" "LLimitTokens$Sealer;", Cond.fieldLink RX2 37 "LimitTokens$Prover" "keys" "[LLimitTokens$Row;", Cond.fieldLink RX2 115 "LimitTokens$Limit" "lock" "LLimitTokens$Row;", Cond.fieldLink RX2 33 "LimitTokens$Prover" "signs" "[LLimitTokens$Row;", Cond.fieldLink RX2 54 "LimitTokens$Prover" "proved" "I", Cond.fieldLink RX2 91 "LimitTokens$Token" "sign" "LLimitTokens$Row;", Cond.methodLink RX2 112 yX2_helperNamed, Cond.instanceMethod yX2_helperNamed, Cond.selects RX2 yX2_helperNamed yX2_helperNamed, Cond.initialized RX2, Cond.code yX2_helperNamed cX2_helperNamed 3 (some .int), Cond.fieldLink RX2 63 "LimitTokens$Token" "name" "LLimitTokens$Row;", Cond.methodLink RX2 94 yX3_isSameAs, Cond.instanceMethod yX3_isSameAs, Cond.selects RX3 yX3_isSameAs yX3_isSameAs, Cond.initialized RX3, Cond.code yX3_isSameAs cX3_isSameAs 3 (some .boolean), Cond.fieldLink RX3 21 "LimitTokens$Row" "length" "I", Cond.fieldLink RX3 15 "LimitTokens$Row" "bytes" "[I"]
def wsX2_passOthers_r2 : List Cond := [Cond.methodLink RX2 98 yX2_stopAt, Cond.instanceMethod yX2_stopAt, Cond.selects RX2 yX2_stopAt yX2_stopAt, Cond.code yX2_stopAt cX2_stopAt 4 (some .boolean), Cond.fieldLink RX2 60 "LimitTokens$Prover" "found" "I", Cond.fieldLink RX2 40 "LimitTokens$Prover" "foundToken" "I", Cond.fieldLink RX2 44 "LimitTokens$Prover" "foundLimit" "I", Cond.methodLink RX2 118 yX4_turnKey, Cond.instanceMethod yX4_turnKey, Cond.selects RX4 yX4_turnKey yX4_turnKey, Cond.initialized RX4, Cond.code yX4_turnKey cX4_turnKey 6 none, Cond.fieldLink RX4 36 "LimitTokens$Sealer" "textSeal" "LLimitTokens$Row;", Cond.methodLink RX4 70 yX4_sealInto, Cond.instanceMethod yX4_sealInto, Cond.selects RX4 yX4_sealInto yX4_sealInto, Cond.code yX4_sealInto cX4_sealInto 4 none, Cond.fieldLink RX4 55 "LimitTokens$Row" "length" "I", Cond.fieldLink RX4 23 "LimitTokens$Sealer" "work" "LLimitTokens$Row;", Cond.fieldLink RX4 27 "LimitTokens$Sealer" "keyBlock" "LLimitTokens$Row;", Cond.fieldLink RX4 30 "LimitTokens$Sealer" "inner" "LLimitTokens$Row;", Cond.methodLink RX4 48 yX3_takeOver, Cond.instanceMethod yX3_takeOver, Cond.selects RX3 yX3_takeOver yX3_takeOver]
def wsX2_passOthers_r3 : List Cond := [Cond.code yX3_takeOver cX3_takeOver 2 none, Cond.methodLink RX3 25 yX3_pushPart, Cond.instanceMethod yX3_pushPart, Cond.selects RX3 yX3_pushPart yX3_pushPart, Cond.code yX3_pushPart cX3_pushPart 4 none, Cond.methodLink RX3 29 arraycopyName, Cond.native arraycopyName, Cond.static arraycopyName, Cond.initialized "java/lang/System", Cond.methodLink RX4 52 yX4_hashWork, Cond.instanceMethod yX4_hashWork, Cond.selects RX4 yX4_hashWork yX4_hashWork, Cond.code yX4_hashWork cX4_hashWork 4 none, Cond.fieldLink RX4 94 "LimitTokens$Sealer" "SQUARE_ROOTS" "[I", Cond.fieldLink RX4 11 "LimitTokens$Sealer" "state" "[I", Cond.methodLink RX4 97 arraycopyName, Cond.methodLink RX4 88 yX3_push, Cond.instanceMethod yX3_push, Cond.selects RX3 yX3_push yX3_push, Cond.code yX3_push cX3_push 2 none, Cond.methodLink RX4 45 yX3_pushZeros, Cond.instanceMethod yX3_pushZeros, Cond.selects RX3 yX3_pushZeros yX3_pushZeros, Cond.code yX3_pushZeros cX3_pushZeros 3 none]
def wsX2_passOthers_r4 : List Cond := [Cond.methodLink RX4 91 yX3_pushWord, Cond.instanceMethod yX3_pushWord, Cond.selects RX3 yX3_pushWord yX3_pushWord, Cond.code yX3_pushWord cX3_pushWord 2 none, Cond.methodLink RX4 103 yX4_spreadWords, Cond.instanceMethod yX4_spreadWords, Cond.selects RX4 yX4_spreadWords yX4_spreadWords, Cond.code yX4_spreadWords cX4_spreadWords 6 none, Cond.fieldLink RX4 112 "LimitTokens$Row" "bytes" "[I", Cond.fieldLink RX4 15 "LimitTokens$Sealer" "words" "[I", Cond.methodLink RX4 106 yX4_mixWords, Cond.instanceMethod yX4_mixWords, Cond.selects RX4 yX4_mixWords yX4_mixWords, Cond.code yX4_mixWords cX4_mixWords 12 none, Cond.fieldLink RX4 109 "LimitTokens$Sealer" "CUBE_ROOTS" "[I", Cond.methodLink RX4 85 yX3_makeEmpty, Cond.instanceMethod yX3_makeEmpty, Cond.selects RX3 yX3_makeEmpty yX3_makeEmpty, Cond.code yX3_makeEmpty cX3_makeEmpty 1 none, Cond.methodLink RX4 59 yX4_startWork, Cond.instanceMethod yX4_startWork, Cond.selects RX4 yX4_startWork yX4_startWork, Cond.code yX4_startWork cX4_startWork 3 none, Cond.methodLink RX4 77 yX3_byteAt]
def wsX2_passOthers_r5 : List Cond := [Cond.instanceMethod yX3_byteAt, Cond.selects RX3 yX3_byteAt yX3_byteAt, Cond.code yX3_byteAt cX3_byteAt 2 (some .int), Cond.methodLink RX4 62 yX3_pushAll, Cond.instanceMethod yX3_pushAll, Cond.selects RX3 yX3_pushAll yX3_pushAll, Cond.code yX3_pushAll cX3_pushAll 2 none, Cond.methodLink RX4 81 yX3_flip, Cond.instanceMethod yX3_flip, Cond.selects RX3 yX3_flip yX3_flip, Cond.code yX3_flip cX3_flip 3 (some .int), Cond.methodLink RX3 35 yX3_has, Cond.instanceMethod yX3_has, Cond.selects RX3 yX3_has yX3_has, Cond.code yX3_has cX3_has 2 (some .boolean), Cond.methodLink RX2 122 yX2_walk, Cond.instanceMethod yX2_walk, Cond.selects RX2 yX2_walk yX2_walk, Cond.methodLink RX2 126 yX4_bindSign, Cond.instanceMethod yX4_bindSign, Cond.selects RX4 yX4_bindSign yX4_bindSign, Cond.code yX4_bindSign cX4_bindSign 3 none, Cond.fieldLink RX4 33 "LimitTokens$Sealer" "pair" "LLimitTokens$Row;", Cond.fieldLink RX4 42 "LimitTokens$Sealer" "zeroKey" "LLimitTokens$Row;"]
def wsX2_passOthers_r6 : List Cond := [Cond.methodLink RX2 130 yX4_goOnOthers, Cond.instanceMethod yX4_goOnOthers, Cond.selects RX4 yX4_goOnOthers yX4_goOnOthers, Cond.code yX4_goOnOthers cX4_goOnOthers 3 none, Cond.fieldLink RX4 39 "LimitTokens$Sealer" "lockSeal" "LLimitTokens$Row;", Cond.fieldLink RX4 74 "LimitTokens$Limit" "lock" "LLimitTokens$Row;", Cond.fieldLink RX4 65 "LimitTokens$Limit" "text" "LLimitTokens$Row;", Cond.code yX2_walk cX2_walk 7 (some .boolean), Cond.fieldLink RX2 71 "LimitTokens$Token" "count" "I", Cond.methodLink RX2 67 yX4_sealInto, Cond.methodLink RX2 78 yX1_isOfOthers, Cond.instanceMethod yX1_isOfOthers, Cond.selects RX1 yX1_isOfOthers yX1_isOfOthers, Cond.initialized RX1, Cond.code yX1_isOfOthers cX1_isOfOthers 1 (some .boolean), Cond.fieldLink RX1 20 "LimitTokens$Limit" "lock" "LLimitTokens$Row;", Cond.fieldLink RX1 23 "LimitTokens$Row" "length" "I", Cond.methodLink RX2 84 yX2_passOthers, Cond.instanceMethod yX2_passOthers, Cond.selects RX2 yX2_passOthers yX2_passOthers, Cond.methodLink RX2 88 yX2_passOwn, Cond.instanceMethod yX2_passOwn, Cond.selects RX2 yX2_passOwn yX2_passOwn, Cond.code yX2_passOwn cX2_passOwn 6 (some .boolean)]
def wsX2_passOthers_r7 : List Cond := [Cond.fieldLink RX2 27 "LimitTokens$Prover" "judge" "LLimitTokens$Judge;", Cond.methodLink RX2 104 yX0_judgeText, Cond.instanceMethod yX0_judgeText, Cond.selects RX0 yX0_judgeText yX0_judgeText, Cond.initialized RX0, Cond.code yX0_judgeText cX0_judgeText 7 (some .int), Cond.fieldLink RX0 15 "LimitTokens$Judge" "position" "I", Cond.fieldLink RX0 19 "LimitTokens$Row" "length" "I", Cond.methodLink RX0 24 yX0_judgeTest, Cond.instanceMethod yX0_judgeTest, Cond.selects RX0 yX0_judgeTest yX0_judgeTest, Cond.code yX0_judgeTest cX0_judgeTest 6 (some .int), Cond.fieldLink RX0 9 "LimitTokens$Judge" "request" "[I", Cond.methodLink RX0 28 yX3_byteAt, Cond.methodLink RX0 32 yX0_takeNumber, Cond.instanceMethod yX0_takeNumber, Cond.selects RX0 yX0_takeNumber yX0_takeNumber, Cond.code yX0_takeNumber cX0_takeNumber 5 (some .int), Cond.methodLink RX0 43 Lib.Math.max.name, Cond.static Lib.Math.max.name, Cond.initialized "java/lang/Math", Cond.code Lib.Math.max.name Lib.Math.max.code 2 (some .int), Cond.methodLink RX0 35 yX0_isKind, Cond.static yX0_isKind]
def wsX2_passOthers_r8 : List Cond := [Cond.code yX0_isKind cX0_isKind 1 (some .boolean), Cond.methodLink RX0 39 yX0_holds, Cond.static yX0_holds, Cond.code yX0_holds cX0_holds 3 (some .boolean), Cond.methodLink RX2 108 yX4_goOnOwn, Cond.instanceMethod yX4_goOnOwn, Cond.selects RX4 yX4_goOnOwn yX4_goOnOwn, Cond.code yX4_goOnOwn cX4_goOnOwn 3 none]
def wsX2_passOthers : List Cond := .code yX2_passOthers cX2_passOthers 7 (some .boolean) :: ((wsX2_passOthers_r1 ++ (wsX2_passOthers_r2 ++ (wsX2_passOthers_r3 ++ (wsX2_passOthers_r4 ++ (wsX2_passOthers_r5 ++ (wsX2_passOthers_r6 ++ (wsX2_passOthers_r7 ++ wsX2_passOthers_r8))))))) ++ wsX20 ++ wsX60 ++ wsX10 ++ wsX30 ++ wsX40 ++ wsX00)
def wsX2_walk_r1 : List Cond := [Cond.fieldLink RX2 11 "LimitTokens$Prover" "tokens" "[LLimitTokens$Token;", Cond.fieldLink RX2 20 "LimitTokens$Prover" "sealer" "LLimitTokens$Sealer;", Cond.fieldLink RX2 33 "LimitTokens$Prover" "signs" "[LLimitTokens$Row;", Cond.fieldLink RX2 63 "LimitTokens$Token" "name" "LLimitTokens$Row;", Cond.fieldLink RX2 71 "LimitTokens$Token" "count" "I", Cond.fieldLink RX2 74 "LimitTokens$Token" "limits" "[LLimitTokens$Limit;", Cond.methodLink RX2 67 yX4_sealInto, Cond.instanceMethod yX4_sealInto, Cond.selects RX4 yX4_sealInto yX4_sealInto, Cond.initialized RX4, Cond.code yX4_sealInto cX4_sealInto 4 none, Cond.fieldLink RX4 55 "LimitTokens$Row" "length" "I", Cond.fieldLink RX4 23 "LimitTokens$Sealer" "work" "LLimitTokens$Row;", Cond.fieldLink RX4 27 "LimitTokens$Sealer" "keyBlock" "LLimitTokens$Row;", Cond.fieldLink RX4 30 "LimitTokens$Sealer" "inner" "LLimitTokens$Row;", Cond.methodLink RX4 48 yX3_takeOver, Cond.instanceMethod yX3_takeOver, Cond.selects RX3 yX3_takeOver yX3_takeOver, Cond.initialized RX3, Cond.code yX3_takeOver cX3_takeOver 2 none, Cond.fieldLink RX3 21 "LimitTokens$Row" "length" "I", Cond.methodLink RX3 25 yX3_pushPart, Cond.instanceMethod yX3_pushPart, Cond.selects RX3 yX3_pushPart yX3_pushPart]
def wsX2_walk_r2 : List Cond := [Cond.code yX3_pushPart cX3_pushPart 4 none, Cond.fieldLink RX3 15 "LimitTokens$Row" "bytes" "[I", Cond.methodLink RX3 29 arraycopyName, Cond.native arraycopyName, Cond.static arraycopyName, Cond.initialized "java/lang/System", Cond.methodLink RX4 52 yX4_hashWork, Cond.instanceMethod yX4_hashWork, Cond.selects RX4 yX4_hashWork yX4_hashWork, Cond.code yX4_hashWork cX4_hashWork 4 none, Cond.fieldLink RX4 94 "LimitTokens$Sealer" "SQUARE_ROOTS" "[I", Cond.fieldLink RX4 11 "LimitTokens$Sealer" "state" "[I", Cond.methodLink RX4 97 arraycopyName, Cond.methodLink RX4 88 yX3_push, Cond.instanceMethod yX3_push, Cond.selects RX3 yX3_push yX3_push, Cond.code yX3_push cX3_push 2 none, Cond.methodLink RX4 45 yX3_pushZeros, Cond.instanceMethod yX3_pushZeros, Cond.selects RX3 yX3_pushZeros yX3_pushZeros, Cond.code yX3_pushZeros cX3_pushZeros 3 none, Cond.methodLink RX4 91 yX3_pushWord, Cond.instanceMethod yX3_pushWord, Cond.selects RX3 yX3_pushWord yX3_pushWord]
def wsX2_walk_r3 : List Cond := [Cond.code yX3_pushWord cX3_pushWord 2 none, Cond.methodLink RX4 103 yX4_spreadWords, Cond.instanceMethod yX4_spreadWords, Cond.selects RX4 yX4_spreadWords yX4_spreadWords, Cond.code yX4_spreadWords cX4_spreadWords 6 none, Cond.fieldLink RX4 112 "LimitTokens$Row" "bytes" "[I", Cond.fieldLink RX4 15 "LimitTokens$Sealer" "words" "[I", Cond.methodLink RX4 106 yX4_mixWords, Cond.instanceMethod yX4_mixWords, Cond.selects RX4 yX4_mixWords yX4_mixWords, Cond.code yX4_mixWords cX4_mixWords 12 none, Cond.fieldLink RX4 109 "LimitTokens$Sealer" "CUBE_ROOTS" "[I", Cond.methodLink RX4 85 yX3_makeEmpty, Cond.instanceMethod yX3_makeEmpty, Cond.selects RX3 yX3_makeEmpty yX3_makeEmpty, Cond.code yX3_makeEmpty cX3_makeEmpty 1 none, Cond.methodLink RX4 59 yX4_startWork, Cond.instanceMethod yX4_startWork, Cond.selects RX4 yX4_startWork yX4_startWork, Cond.code yX4_startWork cX4_startWork 3 none, Cond.methodLink RX4 77 yX3_byteAt, Cond.instanceMethod yX3_byteAt, Cond.selects RX3 yX3_byteAt yX3_byteAt, Cond.code yX3_byteAt cX3_byteAt 2 (some .int)]
def wsX2_walk_r4 : List Cond := [Cond.methodLink RX4 62 yX3_pushAll, Cond.instanceMethod yX3_pushAll, Cond.selects RX3 yX3_pushAll yX3_pushAll, Cond.code yX3_pushAll cX3_pushAll 2 none, Cond.methodLink RX2 78 yX1_isOfOthers, Cond.instanceMethod yX1_isOfOthers, Cond.selects RX1 yX1_isOfOthers yX1_isOfOthers, Cond.initialized RX1, Cond.code yX1_isOfOthers cX1_isOfOthers 1 (some .boolean), Cond.fieldLink RX1 20 "LimitTokens$Limit" "lock" "LLimitTokens$Row;", Cond.fieldLink RX1 23 "LimitTokens$Row" "length" "I", Cond.methodLink RX2 84 yX2_passOthers, Cond.instanceMethod yX2_passOthers, Cond.selects RX2 yX2_passOthers yX2_passOthers, Cond.initialized RX2, Cond.methodLink RX2 88 yX2_passOwn, Cond.instanceMethod yX2_passOwn, Cond.selects RX2 yX2_passOwn yX2_passOwn, Cond.code yX2_passOwn cX2_passOwn 6 (some .boolean), Cond.fieldLink RX2 27 "LimitTokens$Prover" "judge" "LLimitTokens$Judge;", Cond.fieldLink RX2 101 "LimitTokens$Limit" "text" "LLimitTokens$Row;", Cond.methodLink RX2 104 yX0_judgeText, Cond.instanceMethod yX0_judgeText, Cond.selects RX0 yX0_judgeText yX0_judgeText]
def wsX2_walk_r5 : List Cond := [Cond.initialized RX0, Cond.code yX0_judgeText cX0_judgeText 7 (some .int), Cond.fieldLink RX0 15 "LimitTokens$Judge" "position" "I", Cond.fieldLink RX0 19 "LimitTokens$Row" "length" "I", Cond.methodLink RX0 24 yX0_judgeTest, Cond.instanceMethod yX0_judgeTest, Cond.selects RX0 yX0_judgeTest yX0_judgeTest, Cond.code yX0_judgeTest cX0_judgeTest 6 (some .int), Cond.fieldLink RX0 9 "LimitTokens$Judge" "request" "[I", Cond.methodLink RX0 28 yX3_byteAt, Cond.methodLink RX0 32 yX0_takeNumber, Cond.instanceMethod yX0_takeNumber, Cond.selects RX0 yX0_takeNumber yX0_takeNumber, Cond.code yX0_takeNumber cX0_takeNumber 5 (some .int), Cond.methodLink RX0 43 Lib.Math.max.name, Cond.static Lib.Math.max.name, Cond.initialized "java/lang/Math", Cond.code Lib.Math.max.name Lib.Math.max.code 2 (some .int), Cond.methodLink RX0 35 yX0_isKind, Cond.static yX0_isKind, Cond.code yX0_isKind cX0_isKind 1 (some .boolean), Cond.methodLink RX0 39 yX0_holds, Cond.static yX0_holds, Cond.code yX0_holds cX0_holds 3 (some .boolean)]
def wsX2_walk_r6 : List Cond := [Cond.methodLink RX2 98 yX2_stopAt, Cond.instanceMethod yX2_stopAt, Cond.selects RX2 yX2_stopAt yX2_stopAt, Cond.code yX2_stopAt cX2_stopAt 4 (some .boolean), Cond.fieldLink RX2 60 "LimitTokens$Prover" "found" "I", Cond.fieldLink RX2 40 "LimitTokens$Prover" "foundToken" "I", Cond.fieldLink RX2 44 "LimitTokens$Prover" "foundLimit" "I", Cond.methodLink RX2 108 yX4_goOnOwn, Cond.instanceMethod yX4_goOnOwn, Cond.selects RX4 yX4_goOnOwn yX4_goOnOwn, Cond.code yX4_goOnOwn cX4_goOnOwn 3 none, Cond.fieldLink RX4 65 "LimitTokens$Limit" "text" "LLimitTokens$Row;", Cond.methodLink RX4 70 yX4_sealInto, Cond.code yX2_passOthers cX2_passOthers 7 (some .boolean), Cond.fieldLink RX2 57 "LimitTokens$Prover" "waiting" "I", Cond.fieldLink RX2 47 "LimitTokens$Prover" "begun" "I", Cond.fieldLink RX2 37 "LimitTokens$Prover" "keys" "[LLimitTokens$Row;", Cond.fieldLink RX2 115 "LimitTokens$Limit" "lock" "LLimitTokens$Row;", Cond.fieldLink RX2 54 "LimitTokens$Prover" "proved" "I", Cond.fieldLink RX2 91 "LimitTokens$Token" "sign" "LLimitTokens$Row;", Cond.methodLink RX2 112 yX2_helperNamed, Cond.instanceMethod yX2_helperNamed, Cond.selects RX2 yX2_helperNamed yX2_helperNamed, Cond.code yX2_helperNamed cX2_helperNamed 3 (some .int)]
def wsX2_walk_r7 : List Cond := [Cond.methodLink RX2 94 yX3_isSameAs, Cond.instanceMethod yX3_isSameAs, Cond.selects RX3 yX3_isSameAs yX3_isSameAs, Cond.code yX3_isSameAs cX3_isSameAs 3 (some .boolean), Cond.methodLink RX2 118 yX4_turnKey, Cond.instanceMethod yX4_turnKey, Cond.selects RX4 yX4_turnKey yX4_turnKey, Cond.code yX4_turnKey cX4_turnKey 6 none, Cond.fieldLink RX4 36 "LimitTokens$Sealer" "textSeal" "LLimitTokens$Row;", Cond.methodLink RX4 81 yX3_flip, Cond.instanceMethod yX3_flip, Cond.selects RX3 yX3_flip yX3_flip, Cond.code yX3_flip cX3_flip 3 (some .int), Cond.methodLink RX3 35 yX3_has, Cond.instanceMethod yX3_has, Cond.selects RX3 yX3_has yX3_has, Cond.code yX3_has cX3_has 2 (some .boolean), Cond.methodLink RX2 122 yX2_walk, Cond.instanceMethod yX2_walk, Cond.selects RX2 yX2_walk yX2_walk, Cond.methodLink RX2 126 yX4_bindSign, Cond.instanceMethod yX4_bindSign, Cond.selects RX4 yX4_bindSign yX4_bindSign, Cond.code yX4_bindSign cX4_bindSign 3 none]
def wsX2_walk_r8 : List Cond := [Cond.fieldLink RX4 33 "LimitTokens$Sealer" "pair" "LLimitTokens$Row;", Cond.fieldLink RX4 42 "LimitTokens$Sealer" "zeroKey" "LLimitTokens$Row;", Cond.methodLink RX2 130 yX4_goOnOthers, Cond.instanceMethod yX4_goOnOthers, Cond.selects RX4 yX4_goOnOthers yX4_goOnOthers, Cond.code yX4_goOnOthers cX4_goOnOthers 3 none, Cond.fieldLink RX4 39 "LimitTokens$Sealer" "lockSeal" "LLimitTokens$Row;", Cond.fieldLink RX4 74 "LimitTokens$Limit" "lock" "LLimitTokens$Row;"]
def wsX2_walk : List Cond := .code yX2_walk cX2_walk 7 (some .boolean) :: ((wsX2_walk_r1 ++ (wsX2_walk_r2 ++ (wsX2_walk_r3 ++ (wsX2_walk_r4 ++ (wsX2_walk_r5 ++ (wsX2_walk_r6 ++ (wsX2_walk_r7 ++ wsX2_walk_r8))))))) ++ wsX20 ++ wsX60 ++ wsX10 ++ wsX30 ++ wsX40 ++ wsX00)
def wsX2_compareSign : List Cond := .code yX2_compareSign cX2_compareSign 1 none :: ([.fieldLink RX2 33 "LimitTokens$Prover" "signs" "[LLimitTokens$Row;", .fieldLink RX2 11 "LimitTokens$Prover" "tokens" "[LLimitTokens$Token;", .fieldLink RX2 54 "LimitTokens$Prover" "proved" "I", .fieldLink RX2 91 "LimitTokens$Token" "sign" "LLimitTokens$Row;", .fieldLink RX2 71 "LimitTokens$Token" "count" "I", .methodLink RX2 94 yX3_isSameAs, .instanceMethod yX3_isSameAs, .selects RX3 yX3_isSameAs yX3_isSameAs, .initialized RX3, .code yX3_isSameAs cX3_isSameAs 3 (some .boolean), .fieldLink RX3 21 "LimitTokens$Row" "length" "I", .fieldLink RX3 15 "LimitTokens$Row" "bytes" "[I", .methodLink RX2 98 yX2_stopAt, .instanceMethod yX2_stopAt, .selects RX2 yX2_stopAt yX2_stopAt, .initialized RX2, .code yX2_stopAt cX2_stopAt 4 (some .boolean), .fieldLink RX2 60 "LimitTokens$Prover" "found" "I", .fieldLink RX2 40 "LimitTokens$Prover" "foundToken" "I", .fieldLink RX2 44 "LimitTokens$Prover" "foundLimit" "I"] ++ wsX20 ++ wsX60 ++ wsX30)
def wsX3_hasRoomFor : List Cond := .code yX3_hasRoomFor cX3_hasRoomFor 2 (some .boolean) :: ([.fieldLink RX3 15 "LimitTokens$Row" "bytes" "[I", .fieldLink RX3 21 "LimitTokens$Row" "length" "I"] ++ wsX30)
def wsX4_hashInto_r1 : List Cond := [Cond.fieldLink RX4 23 "LimitTokens$Sealer" "work" "LLimitTokens$Row;", Cond.methodLink RX4 48 yX3_takeOver, Cond.instanceMethod yX3_takeOver, Cond.selects RX3 yX3_takeOver yX3_takeOver, Cond.initialized RX3, Cond.code yX3_takeOver cX3_takeOver 2 none, Cond.fieldLink RX3 21 "LimitTokens$Row" "length" "I", Cond.methodLink RX3 25 yX3_pushPart, Cond.instanceMethod yX3_pushPart, Cond.selects RX3 yX3_pushPart yX3_pushPart, Cond.code yX3_pushPart cX3_pushPart 4 none, Cond.fieldLink RX3 15 "LimitTokens$Row" "bytes" "[I", Cond.methodLink RX3 29 arraycopyName, Cond.native arraycopyName, Cond.static arraycopyName, Cond.initialized "java/lang/System", Cond.methodLink RX4 52 yX4_hashWork, Cond.instanceMethod yX4_hashWork, Cond.selects RX4 yX4_hashWork yX4_hashWork, Cond.initialized RX4, Cond.code yX4_hashWork cX4_hashWork 4 none, Cond.fieldLink RX4 55 "LimitTokens$Row" "length" "I", Cond.fieldLink RX4 94 "LimitTokens$Sealer" "SQUARE_ROOTS" "[I", Cond.fieldLink RX4 11 "LimitTokens$Sealer" "state" "[I"]
def wsX4_hashInto_r2 : List Cond := [Cond.methodLink RX4 97 arraycopyName, Cond.methodLink RX4 88 yX3_push, Cond.instanceMethod yX3_push, Cond.selects RX3 yX3_push yX3_push, Cond.code yX3_push cX3_push 2 none, Cond.methodLink RX4 45 yX3_pushZeros, Cond.instanceMethod yX3_pushZeros, Cond.selects RX3 yX3_pushZeros yX3_pushZeros, Cond.code yX3_pushZeros cX3_pushZeros 3 none, Cond.methodLink RX4 91 yX3_pushWord, Cond.instanceMethod yX3_pushWord, Cond.selects RX3 yX3_pushWord yX3_pushWord, Cond.code yX3_pushWord cX3_pushWord 2 none, Cond.methodLink RX4 103 yX4_spreadWords, Cond.instanceMethod yX4_spreadWords, Cond.selects RX4 yX4_spreadWords yX4_spreadWords, Cond.code yX4_spreadWords cX4_spreadWords 6 none, Cond.fieldLink RX4 112 "LimitTokens$Row" "bytes" "[I", Cond.fieldLink RX4 15 "LimitTokens$Sealer" "words" "[I", Cond.methodLink RX4 106 yX4_mixWords, Cond.instanceMethod yX4_mixWords, Cond.selects RX4 yX4_mixWords yX4_mixWords, Cond.code yX4_mixWords cX4_mixWords 12 none, Cond.fieldLink RX4 109 "LimitTokens$Sealer" "CUBE_ROOTS" "[I"]
def wsX4_hashInto_r3 : List Cond := [Cond.methodLink RX4 85 yX3_makeEmpty, Cond.instanceMethod yX3_makeEmpty, Cond.selects RX3 yX3_makeEmpty yX3_makeEmpty, Cond.code yX3_makeEmpty cX3_makeEmpty 1 none]
def wsX4_hashInto : List Cond := .code yX4_hashInto cX4_hashInto 3 none :: ((wsX4_hashInto_r1 ++ (wsX4_hashInto_r2 ++ wsX4_hashInto_r3)) ++ wsX40 ++ wsX30)
def wsX5_init : List Cond := .code yX5_init cX5_init 1 none :: ([.methodLink RX5 3 objectInit, .instanceMethod objectInit, .code objectInit ⟨#[0xb1]⟩ 1 none, .classLink RX5 9 RX3, .instantiable RX3 2, .initialized RX3, .fieldLink RX5 14 "LimitTokens$TapeReader" "source" "LLimitTokens$Row;", .fieldLink RX5 20 "LimitTokens$TapeReader" "foundPlace" "I", .methodLink RX5 11 yX3_init, .instanceMethod yX3_init, .code yX3_init cX3_init 2 none, .methodLink RX3 3 objectInit, .methodLink RX3 9 Lib.Math.max.name, .static Lib.Math.max.name, .initialized "java/lang/Math", .code Lib.Math.max.name Lib.Math.max.code 2 (some .int), .arrayClass .int, .fieldLink RX3 15 "LimitTokens$Row" "bytes" "[I"] ++ wsX30 ++ wsX50)
def wsX5_stopAt : List Cond := .code yX5_stopAt cX5_stopAt 2 (some .boolean) :: ([.fieldLink RX5 27 "LimitTokens$TapeReader" "found" "I", .fieldLink RX5 24 "LimitTokens$TapeReader" "position" "I", .fieldLink RX5 20 "LimitTokens$TapeReader" "foundPlace" "I"] ++ wsX50)
def wsX5_takeMark : List Cond := .code yX5_takeMark cX5_takeMark 2 (some .boolean) :: ([.fieldLink RX5 14 "LimitTokens$TapeReader" "source" "LLimitTokens$Row;", .fieldLink RX5 24 "LimitTokens$TapeReader" "position" "I", .methodLink RX5 86 yX3_has, .instanceMethod yX3_has, .selects RX3 yX3_has yX3_has, .initialized RX3, .code yX3_has cX3_has 2 (some .boolean), .fieldLink RX3 21 "LimitTokens$Row" "length" "I", .methodLink RX5 60 yX5_stopAt, .instanceMethod yX5_stopAt, .selects RX5 yX5_stopAt yX5_stopAt, .initialized RX5, .code yX5_stopAt cX5_stopAt 2 (some .boolean), .fieldLink RX5 27 "LimitTokens$TapeReader" "found" "I", .fieldLink RX5 20 "LimitTokens$TapeReader" "foundPlace" "I", .methodLink RX5 63 yX3_byteAt, .instanceMethod yX3_byteAt, .selects RX3 yX3_byteAt yX3_byteAt, .code yX3_byteAt cX3_byteAt 2 (some .int), .fieldLink RX3 15 "LimitTokens$Row" "bytes" "[I"] ++ wsX50 ++ wsX30)
def wsX5_takeBytes_r1 : List Cond := [Cond.fieldLink RX5 14 "LimitTokens$TapeReader" "source" "LLimitTokens$Row;", Cond.fieldLink RX5 24 "LimitTokens$TapeReader" "position" "I", Cond.fieldLink RX5 57 "LimitTokens$Row" "length" "I", Cond.methodLink RX5 86 yX3_has, Cond.instanceMethod yX3_has, Cond.selects RX3 yX3_has yX3_has, Cond.initialized RX3, Cond.code yX3_has cX3_has 2 (some .boolean), Cond.fieldLink RX3 21 "LimitTokens$Row" "length" "I", Cond.methodLink RX5 60 yX5_stopAt, Cond.instanceMethod yX5_stopAt, Cond.selects RX5 yX5_stopAt yX5_stopAt, Cond.initialized RX5, Cond.code yX5_stopAt cX5_stopAt 2 (some .boolean), Cond.fieldLink RX5 27 "LimitTokens$TapeReader" "found" "I", Cond.fieldLink RX5 20 "LimitTokens$TapeReader" "foundPlace" "I", Cond.methodLink RX5 63 yX3_byteAt, Cond.instanceMethod yX3_byteAt, Cond.selects RX3 yX3_byteAt yX3_byteAt, Cond.code yX3_byteAt cX3_byteAt 2 (some .int), Cond.fieldLink RX3 15 "LimitTokens$Row" "bytes" "[I", Cond.methodLink RX5 83 yX3_makeEmpty, Cond.instanceMethod yX3_makeEmpty, Cond.selects RX3 yX3_makeEmpty yX3_makeEmpty]
def wsX5_takeBytes_r2 : List Cond := [Cond.code yX3_makeEmpty cX3_makeEmpty 1 none, Cond.methodLink RX5 89 yX3_pushPart, Cond.instanceMethod yX3_pushPart, Cond.selects RX3 yX3_pushPart yX3_pushPart, Cond.code yX3_pushPart cX3_pushPart 4 none, Cond.methodLink RX3 29 arraycopyName, Cond.native arraycopyName, Cond.static arraycopyName, Cond.initialized "java/lang/System"]
def wsX5_takeBytes : List Cond := .code yX5_takeBytes cX5_takeBytes 5 (some .boolean) :: ((wsX5_takeBytes_r1 ++ wsX5_takeBytes_r2) ++ wsX50 ++ wsX30)
def wsX5_takeLimit_r1 : List Cond := [Cond.fieldLink RX5 75 "LimitTokens$Limit" "text" "LLimitTokens$Row;", Cond.fieldLink RX5 80 "LimitTokens$Limit" "lock" "LLimitTokens$Row;", Cond.fieldLink RX5 14 "LimitTokens$TapeReader" "source" "LLimitTokens$Row;", Cond.fieldLink RX5 24 "LimitTokens$TapeReader" "position" "I", Cond.methodLink RX5 39 yX5_takeMark, Cond.instanceMethod yX5_takeMark, Cond.selects RX5 yX5_takeMark yX5_takeMark, Cond.initialized RX5, Cond.code yX5_takeMark cX5_takeMark 2 (some .boolean), Cond.methodLink RX5 86 yX3_has, Cond.instanceMethod yX3_has, Cond.selects RX3 yX3_has yX3_has, Cond.initialized RX3, Cond.code yX3_has cX3_has 2 (some .boolean), Cond.fieldLink RX3 21 "LimitTokens$Row" "length" "I", Cond.methodLink RX5 60 yX5_stopAt, Cond.instanceMethod yX5_stopAt, Cond.selects RX5 yX5_stopAt yX5_stopAt, Cond.code yX5_stopAt cX5_stopAt 2 (some .boolean), Cond.fieldLink RX5 27 "LimitTokens$TapeReader" "found" "I", Cond.fieldLink RX5 20 "LimitTokens$TapeReader" "foundPlace" "I", Cond.methodLink RX5 63 yX3_byteAt, Cond.instanceMethod yX3_byteAt, Cond.selects RX3 yX3_byteAt yX3_byteAt]
def wsX5_takeLimit_r2 : List Cond := [Cond.code yX3_byteAt cX3_byteAt 2 (some .int), Cond.fieldLink RX3 15 "LimitTokens$Row" "bytes" "[I", Cond.methodLink RX5 46 yX5_takeBytes, Cond.instanceMethod yX5_takeBytes, Cond.selects RX5 yX5_takeBytes yX5_takeBytes, Cond.code yX5_takeBytes cX5_takeBytes 5 (some .boolean), Cond.fieldLink RX5 57 "LimitTokens$Row" "length" "I", Cond.methodLink RX5 83 yX3_makeEmpty, Cond.instanceMethod yX3_makeEmpty, Cond.selects RX3 yX3_makeEmpty yX3_makeEmpty, Cond.code yX3_makeEmpty cX3_makeEmpty 1 none, Cond.methodLink RX5 89 yX3_pushPart, Cond.instanceMethod yX3_pushPart, Cond.selects RX3 yX3_pushPart yX3_pushPart, Cond.code yX3_pushPart cX3_pushPart 4 none, Cond.methodLink RX3 29 arraycopyName, Cond.native arraycopyName, Cond.static arraycopyName, Cond.initialized "java/lang/System"]
def wsX5_takeLimit : List Cond := .code yX5_takeLimit cX5_takeLimit 2 (some .boolean) :: ((wsX5_takeLimit_r1 ++ wsX5_takeLimit_r2) ++ wsX10 ++ wsX50 ++ wsX30)
def wsX5_takeLimits_r1 : List Cond := [Cond.fieldLink RX5 14 "LimitTokens$TapeReader" "source" "LLimitTokens$Row;", Cond.fieldLink RX5 24 "LimitTokens$TapeReader" "position" "I", Cond.fieldLink RX5 67 "LimitTokens$Token" "limits" "[LLimitTokens$Limit;", Cond.fieldLink RX5 36 "LimitTokens$Token" "count" "I", Cond.methodLink RX5 63 yX3_byteAt, Cond.instanceMethod yX3_byteAt, Cond.selects RX3 yX3_byteAt yX3_byteAt, Cond.initialized RX3, Cond.code yX3_byteAt cX3_byteAt 2 (some .int), Cond.fieldLink RX3 21 "LimitTokens$Row" "length" "I", Cond.fieldLink RX3 15 "LimitTokens$Row" "bytes" "[I", Cond.methodLink RX5 71 yX5_takeLimit, Cond.instanceMethod yX5_takeLimit, Cond.selects RX5 yX5_takeLimit yX5_takeLimit, Cond.initialized RX5, Cond.code yX5_takeLimit cX5_takeLimit 2 (some .boolean), Cond.fieldLink RX5 75 "LimitTokens$Limit" "text" "LLimitTokens$Row;", Cond.fieldLink RX5 80 "LimitTokens$Limit" "lock" "LLimitTokens$Row;", Cond.methodLink RX5 39 yX5_takeMark, Cond.instanceMethod yX5_takeMark, Cond.selects RX5 yX5_takeMark yX5_takeMark, Cond.code yX5_takeMark cX5_takeMark 2 (some .boolean), Cond.methodLink RX5 86 yX3_has, Cond.instanceMethod yX3_has]
def wsX5_takeLimits_r2 : List Cond := [Cond.selects RX3 yX3_has yX3_has, Cond.code yX3_has cX3_has 2 (some .boolean), Cond.methodLink RX5 60 yX5_stopAt, Cond.instanceMethod yX5_stopAt, Cond.selects RX5 yX5_stopAt yX5_stopAt, Cond.code yX5_stopAt cX5_stopAt 2 (some .boolean), Cond.fieldLink RX5 27 "LimitTokens$TapeReader" "found" "I", Cond.fieldLink RX5 20 "LimitTokens$TapeReader" "foundPlace" "I", Cond.methodLink RX5 46 yX5_takeBytes, Cond.instanceMethod yX5_takeBytes, Cond.selects RX5 yX5_takeBytes yX5_takeBytes, Cond.code yX5_takeBytes cX5_takeBytes 5 (some .boolean), Cond.fieldLink RX5 57 "LimitTokens$Row" "length" "I", Cond.methodLink RX5 83 yX3_makeEmpty, Cond.instanceMethod yX3_makeEmpty, Cond.selects RX3 yX3_makeEmpty yX3_makeEmpty, Cond.code yX3_makeEmpty cX3_makeEmpty 1 none, Cond.methodLink RX5 89 yX3_pushPart, Cond.instanceMethod yX3_pushPart, Cond.selects RX3 yX3_pushPart yX3_pushPart, Cond.code yX3_pushPart cX3_pushPart 4 none, Cond.methodLink RX3 29 arraycopyName, Cond.native arraycopyName, Cond.static arraycopyName]
def wsX5_takeLimits_r3 : List Cond := [Cond.initialized "java/lang/System"]
def wsX5_takeLimits : List Cond := .code yX5_takeLimits cX5_takeLimits 3 (some .boolean) :: ((wsX5_takeLimits_r1 ++ (wsX5_takeLimits_r2 ++ wsX5_takeLimits_r3)) ++ wsX50 ++ wsX60 ++ wsX30 ++ wsX10)
def wsX5_readToken_r1 : List Cond := [Cond.fieldLink RX5 24 "LimitTokens$TapeReader" "position" "I", Cond.fieldLink RX5 27 "LimitTokens$TapeReader" "found" "I", Cond.fieldLink RX5 20 "LimitTokens$TapeReader" "foundPlace" "I", Cond.fieldLink RX5 30 "LimitTokens$Token" "there" "Z", Cond.fieldLink RX5 36 "LimitTokens$Token" "count" "I", Cond.fieldLink RX5 43 "LimitTokens$Token" "name" "LLimitTokens$Row;", Cond.fieldLink RX5 54 "LimitTokens$Token" "sign" "LLimitTokens$Row;", Cond.fieldLink RX5 14 "LimitTokens$TapeReader" "source" "LLimitTokens$Row;", Cond.fieldLink RX5 57 "LimitTokens$Row" "length" "I", Cond.methodLink RX5 39 yX5_takeMark, Cond.instanceMethod yX5_takeMark, Cond.selects RX5 yX5_takeMark yX5_takeMark, Cond.initialized RX5, Cond.code yX5_takeMark cX5_takeMark 2 (some .boolean), Cond.methodLink RX5 86 yX3_has, Cond.instanceMethod yX3_has, Cond.selects RX3 yX3_has yX3_has, Cond.initialized RX3, Cond.code yX3_has cX3_has 2 (some .boolean), Cond.fieldLink RX3 21 "LimitTokens$Row" "length" "I", Cond.methodLink RX5 60 yX5_stopAt, Cond.instanceMethod yX5_stopAt, Cond.selects RX5 yX5_stopAt yX5_stopAt, Cond.code yX5_stopAt cX5_stopAt 2 (some .boolean)]
def wsX5_readToken_r2 : List Cond := [Cond.methodLink RX5 63 yX3_byteAt, Cond.instanceMethod yX3_byteAt, Cond.selects RX3 yX3_byteAt yX3_byteAt, Cond.code yX3_byteAt cX3_byteAt 2 (some .int), Cond.fieldLink RX3 15 "LimitTokens$Row" "bytes" "[I", Cond.methodLink RX5 46 yX5_takeBytes, Cond.instanceMethod yX5_takeBytes, Cond.selects RX5 yX5_takeBytes yX5_takeBytes, Cond.code yX5_takeBytes cX5_takeBytes 5 (some .boolean), Cond.methodLink RX5 83 yX3_makeEmpty, Cond.instanceMethod yX3_makeEmpty, Cond.selects RX3 yX3_makeEmpty yX3_makeEmpty, Cond.code yX3_makeEmpty cX3_makeEmpty 1 none, Cond.methodLink RX5 89 yX3_pushPart, Cond.instanceMethod yX3_pushPart, Cond.selects RX3 yX3_pushPart yX3_pushPart, Cond.code yX3_pushPart cX3_pushPart 4 none, Cond.methodLink RX3 29 arraycopyName, Cond.native arraycopyName, Cond.static arraycopyName, Cond.initialized "java/lang/System", Cond.methodLink RX5 50 yX5_takeLimits, Cond.instanceMethod yX5_takeLimits, Cond.selects RX5 yX5_takeLimits yX5_takeLimits]
def wsX5_readToken_r3 : List Cond := [Cond.code yX5_takeLimits cX5_takeLimits 3 (some .boolean), Cond.fieldLink RX5 67 "LimitTokens$Token" "limits" "[LLimitTokens$Limit;", Cond.methodLink RX5 71 yX5_takeLimit, Cond.instanceMethod yX5_takeLimit, Cond.selects RX5 yX5_takeLimit yX5_takeLimit, Cond.code yX5_takeLimit cX5_takeLimit 2 (some .boolean), Cond.fieldLink RX5 75 "LimitTokens$Limit" "text" "LLimitTokens$Row;", Cond.fieldLink RX5 80 "LimitTokens$Limit" "lock" "LLimitTokens$Row;"]
def wsX5_readToken : List Cond := .code yX5_readToken cX5_readToken 2 (some .boolean) :: ((wsX5_readToken_r1 ++ (wsX5_readToken_r2 ++ wsX5_readToken_r3)) ++ wsX50 ++ wsX60 ++ wsX30 ++ wsX10)
def wsX6_isFull : List Cond := .code yX6_isFull cX6_isFull 1 (some .boolean) :: ([.fieldLink RX6 30 "LimitTokens$Token" "count" "I"] ++ wsX60)
def wsX6_limitTold : List Cond := .code yX6_limitTold cX6_limitTold 2 (some .int) :: ([.fieldLink RX6 30 "LimitTokens$Token" "count" "I", .fieldLink RX6 25 "LimitTokens$Token" "limits" "[LLimitTokens$Limit;", .fieldLink RX6 34 "LimitTokens$Limit" "text" "LLimitTokens$Row;", .fieldLink RX6 37 "LimitTokens$Row" "length" "I", .methodLink RX6 40 yX1_isOfOthers, .instanceMethod yX1_isOfOthers, .selects RX1 yX1_isOfOthers yX1_isOfOthers, .initialized RX1, .code yX1_isOfOthers cX1_isOfOthers 1 (some .boolean), .fieldLink RX1 20 "LimitTokens$Limit" "lock" "LLimitTokens$Row;", .fieldLink RX1 23 "LimitTokens$Row" "length" "I"] ++ wsX60 ++ wsX10 ++ wsX30)
def wsX6_takeOver_r1 : List Cond := [Cond.fieldLink RX6 14 "LimitTokens$Token" "name" "LLimitTokens$Row;", Cond.fieldLink RX6 20 "LimitTokens$Token" "sign" "LLimitTokens$Row;", Cond.fieldLink RX6 30 "LimitTokens$Token" "count" "I", Cond.fieldLink RX6 25 "LimitTokens$Token" "limits" "[LLimitTokens$Limit;", Cond.fieldLink RX6 51 "LimitTokens$Token" "there" "Z", Cond.methodLink RX6 44 yX3_takeOver, Cond.instanceMethod yX3_takeOver, Cond.selects RX3 yX3_takeOver yX3_takeOver, Cond.initialized RX3, Cond.code yX3_takeOver cX3_takeOver 2 none, Cond.fieldLink RX3 21 "LimitTokens$Row" "length" "I", Cond.methodLink RX3 25 yX3_pushPart, Cond.instanceMethod yX3_pushPart, Cond.selects RX3 yX3_pushPart yX3_pushPart, Cond.code yX3_pushPart cX3_pushPart 4 none, Cond.fieldLink RX3 15 "LimitTokens$Row" "bytes" "[I", Cond.methodLink RX3 29 arraycopyName, Cond.native arraycopyName, Cond.static arraycopyName, Cond.initialized "java/lang/System", Cond.methodLink RX6 48 yX1_takeOver, Cond.instanceMethod yX1_takeOver, Cond.selects RX1 yX1_takeOver yX1_takeOver, Cond.initialized RX1]
def wsX6_takeOver_r2 : List Cond := [Cond.code yX1_takeOver cX1_takeOver 2 none, Cond.fieldLink RX1 14 "LimitTokens$Limit" "text" "LLimitTokens$Row;", Cond.fieldLink RX1 20 "LimitTokens$Limit" "lock" "LLimitTokens$Row;", Cond.methodLink RX1 27 yX3_takeOver]
def wsX6_takeOver : List Cond := .code yX6_takeOver cX6_takeOver 3 none :: ((wsX6_takeOver_r1 ++ wsX6_takeOver_r2) ++ wsX60 ++ wsX30 ++ wsX10)
def wsX6_putOn_r1 : List Cond := [Cond.fieldLink RX6 14 "LimitTokens$Token" "name" "LLimitTokens$Row;", Cond.fieldLink RX6 37 "LimitTokens$Row" "length" "I", Cond.fieldLink RX6 30 "LimitTokens$Token" "count" "I", Cond.fieldLink RX6 25 "LimitTokens$Token" "limits" "[LLimitTokens$Limit;", Cond.fieldLink RX6 20 "LimitTokens$Token" "sign" "LLimitTokens$Row;", Cond.methodLink RX6 55 yX3_push, Cond.instanceMethod yX3_push, Cond.selects RX3 yX3_push yX3_push, Cond.initialized RX3, Cond.code yX3_push cX3_push 2 none, Cond.fieldLink RX3 21 "LimitTokens$Row" "length" "I", Cond.fieldLink RX3 15 "LimitTokens$Row" "bytes" "[I", Cond.methodLink RX6 58 yX3_pushAll, Cond.instanceMethod yX3_pushAll, Cond.selects RX3 yX3_pushAll yX3_pushAll, Cond.code yX3_pushAll cX3_pushAll 2 none, Cond.methodLink RX3 25 yX3_pushPart, Cond.instanceMethod yX3_pushPart, Cond.selects RX3 yX3_pushPart yX3_pushPart, Cond.code yX3_pushPart cX3_pushPart 4 none, Cond.methodLink RX3 29 arraycopyName, Cond.native arraycopyName, Cond.static arraycopyName, Cond.initialized "java/lang/System"]
def wsX6_putOn_r2 : List Cond := [Cond.methodLink RX6 61 yX1_putOn, Cond.instanceMethod yX1_putOn, Cond.selects RX1 yX1_putOn yX1_putOn, Cond.initialized RX1, Cond.code yX1_putOn cX1_putOn 2 none, Cond.fieldLink RX1 14 "LimitTokens$Limit" "text" "LLimitTokens$Row;", Cond.fieldLink RX1 23 "LimitTokens$Row" "length" "I", Cond.fieldLink RX1 20 "LimitTokens$Limit" "lock" "LLimitTokens$Row;", Cond.methodLink RX1 31 yX3_push, Cond.methodLink RX1 34 yX3_pushAll, Cond.methodLink RX1 37 yX1_isOfOthers, Cond.instanceMethod yX1_isOfOthers, Cond.selects RX1 yX1_isOfOthers yX1_isOfOthers, Cond.code yX1_isOfOthers cX1_isOfOthers 1 (some .boolean)]
def wsX6_putOn : List Cond := .code yX6_putOn cX6_putOn 3 none :: ((wsX6_putOn_r1 ++ wsX6_putOn_r2) ++ wsX60 ++ wsX30 ++ wsX10)
def wsX7_init_r1 : List Cond := [Cond.methodLink RX7 1 objectInit, Cond.instanceMethod objectInit, Cond.code objectInit ⟨#[0xb1]⟩ 1 none, Cond.classLink RX7 9 RX3, Cond.fieldLink RX7 11 "LimitTokens" "registers" "[LLimitTokens$Row;", Cond.classLink RX7 15 RX2, Cond.instantiable RX2 11, Cond.initialized RX2, Cond.fieldLink RX7 18 "LimitTokens" "prover" "LLimitTokens$Prover;", Cond.classLink RX7 22 RX5, Cond.instantiable RX5 4, Cond.initialized RX5, Cond.fieldLink RX7 25 "LimitTokens" "reader" "LLimitTokens$TapeReader;", Cond.classLink RX7 29 RX6, Cond.instantiable RX6 5, Cond.initialized RX6, Cond.fieldLink RX7 32 "LimitTokens" "spare" "LLimitTokens$Token;", Cond.fieldLink RX7 36 "LimitTokens$Prover" "tokens" "[LLimitTokens$Token;", Cond.fieldLink RX7 40 "LimitTokens" "tokens" "[LLimitTokens$Token;", Cond.fieldLink RX7 41 "LimitTokens$Prover" "sealer" "LLimitTokens$Sealer;", Cond.fieldLink RX7 45 "LimitTokens" "sealer" "LLimitTokens$Sealer;", Cond.fieldLink RX7 46 "LimitTokens$Prover" "judge" "LLimitTokens$Judge;", Cond.fieldLink RX7 50 "LimitTokens" "judge" "LLimitTokens$Judge;", Cond.fieldLink RX7 51 "LimitTokens$Judge" "request" "[I"]
def wsX7_init_r2 : List Cond := [Cond.fieldLink RX7 57 "LimitTokens" "request" "[I", Cond.fieldLink RX7 58 "LimitTokens$TapeReader" "source" "LLimitTokens$Row;", Cond.fieldLink RX7 62 "LimitTokens" "tape" "LLimitTokens$Row;", Cond.instantiable RX3 2, Cond.initialized RX3, Cond.methodLink RX7 17 yX2_init, Cond.instanceMethod yX2_init, Cond.code yX2_init cX2_init 2 none, Cond.methodLink RX2 3 objectInit, Cond.classLink RX2 9 RX6, Cond.fieldLink RX2 11 "LimitTokens$Prover" "tokens" "[LLimitTokens$Token;", Cond.classLink RX2 17 RX4, Cond.instantiable RX4 9, Cond.initialized RX4, Cond.fieldLink RX2 20 "LimitTokens$Prover" "sealer" "LLimitTokens$Sealer;", Cond.classLink RX2 24 RX0, Cond.instantiable RX0 2, Cond.initialized RX0, Cond.fieldLink RX2 27 "LimitTokens$Prover" "judge" "LLimitTokens$Judge;", Cond.classLink RX2 31 RX3, Cond.fieldLink RX2 33 "LimitTokens$Prover" "signs" "[LLimitTokens$Row;", Cond.fieldLink RX2 37 "LimitTokens$Prover" "keys" "[LLimitTokens$Row;", Cond.fieldLink RX2 40 "LimitTokens$Prover" "foundToken" "I", Cond.fieldLink RX2 44 "LimitTokens$Prover" "foundLimit" "I"]
def wsX7_init_r3 : List Cond := [Cond.fieldLink RX2 47 "LimitTokens$Prover" "begun" "I", Cond.methodLink RX2 19 yX4_init, Cond.instanceMethod yX4_init, Cond.code yX4_init cX4_init 1 none, Cond.methodLink RX4 5 objectInit, Cond.arrayClass .int, Cond.fieldLink RX4 11 "LimitTokens$Sealer" "state" "[I", Cond.fieldLink RX4 15 "LimitTokens$Sealer" "words" "[I", Cond.classLink RX4 18 RX3, Cond.fieldLink RX4 23 "LimitTokens$Sealer" "work" "LLimitTokens$Row;", Cond.fieldLink RX4 27 "LimitTokens$Sealer" "keyBlock" "LLimitTokens$Row;", Cond.fieldLink RX4 30 "LimitTokens$Sealer" "inner" "LLimitTokens$Row;", Cond.fieldLink RX4 33 "LimitTokens$Sealer" "pair" "LLimitTokens$Row;", Cond.fieldLink RX4 36 "LimitTokens$Sealer" "textSeal" "LLimitTokens$Row;", Cond.fieldLink RX4 39 "LimitTokens$Sealer" "lockSeal" "LLimitTokens$Row;", Cond.fieldLink RX4 42 "LimitTokens$Sealer" "zeroKey" "LLimitTokens$Row;", Cond.methodLink RX4 20 yX3_init, Cond.instanceMethod yX3_init, Cond.code yX3_init cX3_init 2 none, Cond.methodLink RX3 3 objectInit, Cond.methodLink RX3 9 Lib.Math.max.name, Cond.static Lib.Math.max.name, Cond.initialized "java/lang/Math", Cond.code Lib.Math.max.name Lib.Math.max.code 2 (some .int)]
def wsX7_init_r4 : List Cond := [Cond.fieldLink RX3 15 "LimitTokens$Row" "bytes" "[I", Cond.methodLink RX4 45 yX3_pushZeros, Cond.instanceMethod yX3_pushZeros, Cond.selects RX3 yX3_pushZeros yX3_pushZeros, Cond.code yX3_pushZeros cX3_pushZeros 3 none, Cond.fieldLink RX3 21 "LimitTokens$Row" "length" "I", Cond.instanceMethod yX0_init, Cond.code yX0_init cX0_init 1 none, Cond.methodLink RX0 3 objectInit, Cond.fieldLink RX0 9 "LimitTokens$Judge" "request" "[I", Cond.methodLink RX2 50 yX6_init, Cond.instanceMethod yX6_init, Cond.code yX6_init cX6_init 2 none, Cond.methodLink RX6 3 objectInit, Cond.classLink RX6 9 RX3, Cond.fieldLink RX6 14 "LimitTokens$Token" "name" "LLimitTokens$Row;", Cond.fieldLink RX6 20 "LimitTokens$Token" "sign" "LLimitTokens$Row;", Cond.classLink RX6 23 RX1, Cond.fieldLink RX6 25 "LimitTokens$Token" "limits" "[LLimitTokens$Limit;", Cond.instantiable RX1 2, Cond.initialized RX1, Cond.methodLink RX6 11 yX3_init, Cond.instanceMethod yX1_init, Cond.code yX1_init cX1_init 1 none]
def wsX7_init_r5 : List Cond := [Cond.methodLink RX1 3 objectInit, Cond.classLink RX1 9 RX3, Cond.fieldLink RX1 14 "LimitTokens$Limit" "text" "LLimitTokens$Row;", Cond.fieldLink RX1 20 "LimitTokens$Limit" "lock" "LLimitTokens$Row;", Cond.methodLink RX1 11 yX3_init, Cond.methodLink RX2 51 yX3_init, Cond.instanceMethod yX5_init, Cond.code yX5_init cX5_init 1 none, Cond.methodLink RX5 3 objectInit, Cond.classLink RX5 9 RX3, Cond.fieldLink RX5 14 "LimitTokens$TapeReader" "source" "LLimitTokens$Row;", Cond.fieldLink RX5 20 "LimitTokens$TapeReader" "foundPlace" "I", Cond.methodLink RX5 11 yX3_init, Cond.methodLink RX7 31 yX6_init, Cond.methodLink RX7 65 yX3_init]
def wsX7_init : List Cond := .code yX7_init cX7_init 2 none :: ((wsX7_init_r1 ++ (wsX7_init_r2 ++ (wsX7_init_r3 ++ (wsX7_init_r4 ++ wsX7_init_r5)))) ++ wsX70 ++ wsX20 ++ wsX50 ++ wsX60 ++ wsX00 ++ wsX30 ++ wsX40 ++ wsX10)
def wsX7_isRegister : List Cond := .code yX7_isRegister cX7_isRegister 1 (some .boolean) :: ([])
def wsX7_isWidth : List Cond := .code yX7_isWidth cX7_isWidth 1 (some .boolean) :: ([])
def wsX7_pushLowest : List Cond := .code yX7_pushLowest cX7_pushLowest 5 (some .int) :: ([.fieldLink RX7 79 "LimitTokens$Row" "length" "I", .methodLink RX7 214 yX3_hasRoomFor, .instanceMethod yX3_hasRoomFor, .selects RX3 yX3_hasRoomFor yX3_hasRoomFor, .initialized RX3, .code yX3_hasRoomFor cX3_hasRoomFor 2 (some .boolean), .fieldLink RX3 15 "LimitTokens$Row" "bytes" "[I", .fieldLink RX3 21 "LimitTokens$Row" "length" "I", .methodLink RX7 217 yX3_push, .instanceMethod yX3_push, .selects RX3 yX3_push yX3_push, .code yX3_push cX3_push 2 none] ++ wsX30)
def wsX7_add : List Cond := .code yX7_add cX7_add 5 (some .int) :: ([.fieldLink RX7 11 "LimitTokens" "registers" "[LLimitTokens$Row;", .methodLink RX7 68 yX7_isRegister, .static yX7_isRegister, .initialized RX7, .code yX7_isRegister cX7_isRegister 1 (some .boolean), .methodLink RX7 72 yX7_isWidth, .static yX7_isWidth, .code yX7_isWidth cX7_isWidth 1 (some .boolean), .methodLink RX7 75 yX7_pushLowest, .static yX7_pushLowest, .code yX7_pushLowest cX7_pushLowest 5 (some .int), .fieldLink RX7 79 "LimitTokens$Row" "length" "I", .methodLink RX7 214 yX3_hasRoomFor, .instanceMethod yX3_hasRoomFor, .selects RX3 yX3_hasRoomFor yX3_hasRoomFor, .initialized RX3, .code yX3_hasRoomFor cX3_hasRoomFor 2 (some .boolean), .fieldLink RX3 15 "LimitTokens$Row" "bytes" "[I", .fieldLink RX3 21 "LimitTokens$Row" "length" "I", .methodLink RX7 217 yX3_push, .instanceMethod yX3_push, .selects RX3 yX3_push yX3_push, .code yX3_push cX3_push 2 none] ++ wsX70 ++ wsX30)
def wsX7_clear : List Cond := .code yX7_clear cX7_clear 3 (some .int) :: ([.fieldLink RX7 11 "LimitTokens" "registers" "[LLimitTokens$Row;", .fieldLink RX7 79 "LimitTokens$Row" "length" "I", .methodLink RX7 68 yX7_isRegister, .static yX7_isRegister, .initialized RX7, .code yX7_isRegister cX7_isRegister 1 (some .boolean), .methodLink RX7 83 yX3_makeEmpty, .instanceMethod yX3_makeEmpty, .selects RX3 yX3_makeEmpty yX3_makeEmpty, .initialized RX3, .code yX3_makeEmpty cX3_makeEmpty 1 none, .fieldLink RX3 21 "LimitTokens$Row" "length" "I"] ++ wsX70 ++ wsX30)
def wsX7_at : List Cond := .code yX7_at cX7_at 3 (some .int) :: ([.fieldLink RX7 11 "LimitTokens" "registers" "[LLimitTokens$Row;", .methodLink RX7 68 yX7_isRegister, .static yX7_isRegister, .initialized RX7, .code yX7_isRegister cX7_isRegister 1 (some .boolean), .methodLink RX7 86 yX3_byteAt, .instanceMethod yX3_byteAt, .selects RX3 yX3_byteAt yX3_byteAt, .initialized RX3, .code yX3_byteAt cX3_byteAt 2 (some .int), .fieldLink RX3 21 "LimitTokens$Row" "length" "I", .fieldLink RX3 15 "LimitTokens$Row" "bytes" "[I"] ++ wsX70 ++ wsX30)
def wsX7_hash_r1 : List Cond := [Cond.fieldLink RX7 45 "LimitTokens" "sealer" "LLimitTokens$Sealer;", Cond.fieldLink RX7 11 "LimitTokens" "registers" "[LLimitTokens$Row;", Cond.fieldLink RX7 79 "LimitTokens$Row" "length" "I", Cond.methodLink RX7 68 yX7_isRegister, Cond.static yX7_isRegister, Cond.initialized RX7, Cond.code yX7_isRegister cX7_isRegister 1 (some .boolean), Cond.methodLink RX7 90 yX4_hashInto, Cond.instanceMethod yX4_hashInto, Cond.selects RX4 yX4_hashInto yX4_hashInto, Cond.initialized RX4, Cond.code yX4_hashInto cX4_hashInto 3 none, Cond.fieldLink RX4 23 "LimitTokens$Sealer" "work" "LLimitTokens$Row;", Cond.methodLink RX4 48 yX3_takeOver, Cond.instanceMethod yX3_takeOver, Cond.selects RX3 yX3_takeOver yX3_takeOver, Cond.initialized RX3, Cond.code yX3_takeOver cX3_takeOver 2 none, Cond.fieldLink RX3 21 "LimitTokens$Row" "length" "I", Cond.methodLink RX3 25 yX3_pushPart, Cond.instanceMethod yX3_pushPart, Cond.selects RX3 yX3_pushPart yX3_pushPart, Cond.code yX3_pushPart cX3_pushPart 4 none, Cond.fieldLink RX3 15 "LimitTokens$Row" "bytes" "[I"]
def wsX7_hash_r2 : List Cond := [Cond.methodLink RX3 29 arraycopyName, Cond.native arraycopyName, Cond.static arraycopyName, Cond.initialized "java/lang/System", Cond.methodLink RX4 52 yX4_hashWork, Cond.instanceMethod yX4_hashWork, Cond.selects RX4 yX4_hashWork yX4_hashWork, Cond.code yX4_hashWork cX4_hashWork 4 none, Cond.fieldLink RX4 55 "LimitTokens$Row" "length" "I", Cond.fieldLink RX4 94 "LimitTokens$Sealer" "SQUARE_ROOTS" "[I", Cond.fieldLink RX4 11 "LimitTokens$Sealer" "state" "[I", Cond.methodLink RX4 97 arraycopyName, Cond.methodLink RX4 88 yX3_push, Cond.instanceMethod yX3_push, Cond.selects RX3 yX3_push yX3_push, Cond.code yX3_push cX3_push 2 none, Cond.methodLink RX4 45 yX3_pushZeros, Cond.instanceMethod yX3_pushZeros, Cond.selects RX3 yX3_pushZeros yX3_pushZeros, Cond.code yX3_pushZeros cX3_pushZeros 3 none, Cond.methodLink RX4 91 yX3_pushWord, Cond.instanceMethod yX3_pushWord, Cond.selects RX3 yX3_pushWord yX3_pushWord, Cond.code yX3_pushWord cX3_pushWord 2 none]
def wsX7_hash_r3 : List Cond := [Cond.methodLink RX4 103 yX4_spreadWords, Cond.instanceMethod yX4_spreadWords, Cond.selects RX4 yX4_spreadWords yX4_spreadWords, Cond.code yX4_spreadWords cX4_spreadWords 6 none, Cond.fieldLink RX4 112 "LimitTokens$Row" "bytes" "[I", Cond.fieldLink RX4 15 "LimitTokens$Sealer" "words" "[I", Cond.methodLink RX4 106 yX4_mixWords, Cond.instanceMethod yX4_mixWords, Cond.selects RX4 yX4_mixWords yX4_mixWords, Cond.code yX4_mixWords cX4_mixWords 12 none, Cond.fieldLink RX4 109 "LimitTokens$Sealer" "CUBE_ROOTS" "[I", Cond.methodLink RX4 85 yX3_makeEmpty, Cond.instanceMethod yX3_makeEmpty, Cond.selects RX3 yX3_makeEmpty yX3_makeEmpty, Cond.code yX3_makeEmpty cX3_makeEmpty 1 none]
def wsX7_hash : List Cond := .code yX7_hash cX7_hash 3 (some .int) :: ((wsX7_hash_r1 ++ (wsX7_hash_r2 ++ wsX7_hash_r3)) ++ wsX70 ++ wsX30 ++ wsX40)
def wsX7_seal_r1 : List Cond := [Cond.fieldLink RX7 45 "LimitTokens" "sealer" "LLimitTokens$Sealer;", Cond.fieldLink RX7 11 "LimitTokens" "registers" "[LLimitTokens$Row;", Cond.fieldLink RX7 79 "LimitTokens$Row" "length" "I", Cond.methodLink RX7 68 yX7_isRegister, Cond.static yX7_isRegister, Cond.initialized RX7, Cond.code yX7_isRegister cX7_isRegister 1 (some .boolean), Cond.methodLink RX7 96 yX4_sealInto, Cond.instanceMethod yX4_sealInto, Cond.selects RX4 yX4_sealInto yX4_sealInto, Cond.initialized RX4, Cond.code yX4_sealInto cX4_sealInto 4 none, Cond.fieldLink RX4 55 "LimitTokens$Row" "length" "I", Cond.fieldLink RX4 23 "LimitTokens$Sealer" "work" "LLimitTokens$Row;", Cond.fieldLink RX4 27 "LimitTokens$Sealer" "keyBlock" "LLimitTokens$Row;", Cond.fieldLink RX4 30 "LimitTokens$Sealer" "inner" "LLimitTokens$Row;", Cond.methodLink RX4 48 yX3_takeOver, Cond.instanceMethod yX3_takeOver, Cond.selects RX3 yX3_takeOver yX3_takeOver, Cond.initialized RX3, Cond.code yX3_takeOver cX3_takeOver 2 none, Cond.fieldLink RX3 21 "LimitTokens$Row" "length" "I", Cond.methodLink RX3 25 yX3_pushPart, Cond.instanceMethod yX3_pushPart]
def wsX7_seal_r2 : List Cond := [Cond.selects RX3 yX3_pushPart yX3_pushPart, Cond.code yX3_pushPart cX3_pushPart 4 none, Cond.fieldLink RX3 15 "LimitTokens$Row" "bytes" "[I", Cond.methodLink RX3 29 arraycopyName, Cond.native arraycopyName, Cond.static arraycopyName, Cond.initialized "java/lang/System", Cond.methodLink RX4 52 yX4_hashWork, Cond.instanceMethod yX4_hashWork, Cond.selects RX4 yX4_hashWork yX4_hashWork, Cond.code yX4_hashWork cX4_hashWork 4 none, Cond.fieldLink RX4 94 "LimitTokens$Sealer" "SQUARE_ROOTS" "[I", Cond.fieldLink RX4 11 "LimitTokens$Sealer" "state" "[I", Cond.methodLink RX4 97 arraycopyName, Cond.methodLink RX4 88 yX3_push, Cond.instanceMethod yX3_push, Cond.selects RX3 yX3_push yX3_push, Cond.code yX3_push cX3_push 2 none, Cond.methodLink RX4 45 yX3_pushZeros, Cond.instanceMethod yX3_pushZeros, Cond.selects RX3 yX3_pushZeros yX3_pushZeros, Cond.code yX3_pushZeros cX3_pushZeros 3 none, Cond.methodLink RX4 91 yX3_pushWord, Cond.instanceMethod yX3_pushWord]
def wsX7_seal_r3 : List Cond := [Cond.selects RX3 yX3_pushWord yX3_pushWord, Cond.code yX3_pushWord cX3_pushWord 2 none, Cond.methodLink RX4 103 yX4_spreadWords, Cond.instanceMethod yX4_spreadWords, Cond.selects RX4 yX4_spreadWords yX4_spreadWords, Cond.code yX4_spreadWords cX4_spreadWords 6 none, Cond.fieldLink RX4 112 "LimitTokens$Row" "bytes" "[I", Cond.fieldLink RX4 15 "LimitTokens$Sealer" "words" "[I", Cond.methodLink RX4 106 yX4_mixWords, Cond.instanceMethod yX4_mixWords, Cond.selects RX4 yX4_mixWords yX4_mixWords, Cond.code yX4_mixWords cX4_mixWords 12 none, Cond.fieldLink RX4 109 "LimitTokens$Sealer" "CUBE_ROOTS" "[I", Cond.methodLink RX4 85 yX3_makeEmpty, Cond.instanceMethod yX3_makeEmpty, Cond.selects RX3 yX3_makeEmpty yX3_makeEmpty, Cond.code yX3_makeEmpty cX3_makeEmpty 1 none, Cond.methodLink RX4 59 yX4_startWork, Cond.instanceMethod yX4_startWork, Cond.selects RX4 yX4_startWork yX4_startWork, Cond.code yX4_startWork cX4_startWork 3 none, Cond.methodLink RX4 77 yX3_byteAt, Cond.instanceMethod yX3_byteAt, Cond.selects RX3 yX3_byteAt yX3_byteAt]
def wsX7_seal_r4 : List Cond := [Cond.code yX3_byteAt cX3_byteAt 2 (some .int), Cond.methodLink RX4 62 yX3_pushAll, Cond.instanceMethod yX3_pushAll, Cond.selects RX3 yX3_pushAll yX3_pushAll, Cond.code yX3_pushAll cX3_pushAll 2 none]
def wsX7_seal : List Cond := .code yX7_seal cX7_seal 4 (some .int) :: ((wsX7_seal_r1 ++ (wsX7_seal_r2 ++ (wsX7_seal_r3 ++ wsX7_seal_r4))) ++ wsX70 ++ wsX30 ++ wsX40)
def wsX7_isTokenNumber : List Cond := .code yX7_isTokenNumber cX7_isTokenNumber 1 (some .boolean) :: ([])
def wsX7_isWordingLength : List Cond := .code yX7_isWordingLength cX7_isWordingLength 1 (some .boolean) :: ([])
def wsX7_make_r1 : List Cond := [Cond.fieldLink RX7 11 "LimitTokens" "registers" "[LLimitTokens$Row;", Cond.fieldLink RX7 79 "LimitTokens$Row" "length" "I", Cond.fieldLink RX7 40 "LimitTokens" "tokens" "[LLimitTokens$Token;", Cond.fieldLink RX7 106 "LimitTokens$Token" "there" "Z", Cond.fieldLink RX7 110 "LimitTokens$Token" "count" "I", Cond.fieldLink RX7 113 "LimitTokens$Token" "name" "LLimitTokens$Row;", Cond.fieldLink RX7 45 "LimitTokens" "sealer" "LLimitTokens$Sealer;", Cond.fieldLink RX7 120 "LimitTokens$Token" "sign" "LLimitTokens$Row;", Cond.methodLink RX7 100 yX7_isTokenNumber, Cond.static yX7_isTokenNumber, Cond.initialized RX7, Cond.code yX7_isTokenNumber cX7_isTokenNumber 1 (some .boolean), Cond.methodLink RX7 68 yX7_isRegister, Cond.static yX7_isRegister, Cond.code yX7_isRegister cX7_isRegister 1 (some .boolean), Cond.methodLink RX7 103 yX7_isWordingLength, Cond.static yX7_isWordingLength, Cond.code yX7_isWordingLength cX7_isWordingLength 1 (some .boolean), Cond.methodLink RX7 116 yX3_takeOver, Cond.instanceMethod yX3_takeOver, Cond.selects RX3 yX3_takeOver yX3_takeOver, Cond.initialized RX3, Cond.code yX3_takeOver cX3_takeOver 2 none, Cond.fieldLink RX3 21 "LimitTokens$Row" "length" "I"]
def wsX7_make_r2 : List Cond := [Cond.methodLink RX3 25 yX3_pushPart, Cond.instanceMethod yX3_pushPart, Cond.selects RX3 yX3_pushPart yX3_pushPart, Cond.code yX3_pushPart cX3_pushPart 4 none, Cond.fieldLink RX3 15 "LimitTokens$Row" "bytes" "[I", Cond.methodLink RX3 29 arraycopyName, Cond.native arraycopyName, Cond.static arraycopyName, Cond.initialized "java/lang/System", Cond.methodLink RX7 96 yX4_sealInto, Cond.instanceMethod yX4_sealInto, Cond.selects RX4 yX4_sealInto yX4_sealInto, Cond.initialized RX4, Cond.code yX4_sealInto cX4_sealInto 4 none, Cond.fieldLink RX4 55 "LimitTokens$Row" "length" "I", Cond.fieldLink RX4 23 "LimitTokens$Sealer" "work" "LLimitTokens$Row;", Cond.fieldLink RX4 27 "LimitTokens$Sealer" "keyBlock" "LLimitTokens$Row;", Cond.fieldLink RX4 30 "LimitTokens$Sealer" "inner" "LLimitTokens$Row;", Cond.methodLink RX4 48 yX3_takeOver, Cond.methodLink RX4 52 yX4_hashWork, Cond.instanceMethod yX4_hashWork, Cond.selects RX4 yX4_hashWork yX4_hashWork, Cond.code yX4_hashWork cX4_hashWork 4 none, Cond.fieldLink RX4 94 "LimitTokens$Sealer" "SQUARE_ROOTS" "[I"]
def wsX7_make_r3 : List Cond := [Cond.fieldLink RX4 11 "LimitTokens$Sealer" "state" "[I", Cond.methodLink RX4 97 arraycopyName, Cond.methodLink RX4 88 yX3_push, Cond.instanceMethod yX3_push, Cond.selects RX3 yX3_push yX3_push, Cond.code yX3_push cX3_push 2 none, Cond.methodLink RX4 45 yX3_pushZeros, Cond.instanceMethod yX3_pushZeros, Cond.selects RX3 yX3_pushZeros yX3_pushZeros, Cond.code yX3_pushZeros cX3_pushZeros 3 none, Cond.methodLink RX4 91 yX3_pushWord, Cond.instanceMethod yX3_pushWord, Cond.selects RX3 yX3_pushWord yX3_pushWord, Cond.code yX3_pushWord cX3_pushWord 2 none, Cond.methodLink RX4 103 yX4_spreadWords, Cond.instanceMethod yX4_spreadWords, Cond.selects RX4 yX4_spreadWords yX4_spreadWords, Cond.code yX4_spreadWords cX4_spreadWords 6 none, Cond.fieldLink RX4 112 "LimitTokens$Row" "bytes" "[I", Cond.fieldLink RX4 15 "LimitTokens$Sealer" "words" "[I", Cond.methodLink RX4 106 yX4_mixWords, Cond.instanceMethod yX4_mixWords, Cond.selects RX4 yX4_mixWords yX4_mixWords, Cond.code yX4_mixWords cX4_mixWords 12 none]
def wsX7_make_r4 : List Cond := [Cond.fieldLink RX4 109 "LimitTokens$Sealer" "CUBE_ROOTS" "[I", Cond.methodLink RX4 85 yX3_makeEmpty, Cond.instanceMethod yX3_makeEmpty, Cond.selects RX3 yX3_makeEmpty yX3_makeEmpty, Cond.code yX3_makeEmpty cX3_makeEmpty 1 none, Cond.methodLink RX4 59 yX4_startWork, Cond.instanceMethod yX4_startWork, Cond.selects RX4 yX4_startWork yX4_startWork, Cond.code yX4_startWork cX4_startWork 3 none, Cond.methodLink RX4 77 yX3_byteAt, Cond.instanceMethod yX3_byteAt, Cond.selects RX3 yX3_byteAt yX3_byteAt, Cond.code yX3_byteAt cX3_byteAt 2 (some .int), Cond.methodLink RX4 62 yX3_pushAll, Cond.instanceMethod yX3_pushAll, Cond.selects RX3 yX3_pushAll yX3_pushAll, Cond.code yX3_pushAll cX3_pushAll 2 none]
def wsX7_make : List Cond := .code yX7_make cX7_make 5 (some .int) :: ((wsX7_make_r1 ++ (wsX7_make_r2 ++ (wsX7_make_r3 ++ wsX7_make_r4))) ++ wsX70 ++ wsX30 ++ wsX60 ++ wsX40)
def wsX7_isThere : List Cond := .code yX7_isThere cX7_isThere 2 (some .boolean) :: ([.fieldLink RX7 40 "LimitTokens" "tokens" "[LLimitTokens$Token;", .fieldLink RX7 106 "LimitTokens$Token" "there" "Z", .methodLink RX7 100 yX7_isTokenNumber, .static yX7_isTokenNumber, .initialized RX7, .code yX7_isTokenNumber cX7_isTokenNumber 1 (some .boolean)] ++ wsX70 ++ wsX60)
def wsX7_limit_r1 : List Cond := [Cond.fieldLink RX7 40 "LimitTokens" "tokens" "[LLimitTokens$Token;", Cond.fieldLink RX7 11 "LimitTokens" "registers" "[LLimitTokens$Row;", Cond.fieldLink RX7 79 "LimitTokens$Row" "length" "I", Cond.fieldLink RX7 130 "LimitTokens$Token" "limits" "[LLimitTokens$Limit;", Cond.fieldLink RX7 110 "LimitTokens$Token" "count" "I", Cond.fieldLink RX7 134 "LimitTokens$Limit" "text" "LLimitTokens$Row;", Cond.fieldLink RX7 139 "LimitTokens$Limit" "lock" "LLimitTokens$Row;", Cond.fieldLink RX7 45 "LimitTokens" "sealer" "LLimitTokens$Sealer;", Cond.fieldLink RX7 120 "LimitTokens$Token" "sign" "LLimitTokens$Row;", Cond.methodLink RX7 123 yX7_isThere, Cond.instanceMethod yX7_isThere, Cond.selects RX7 yX7_isThere yX7_isThere, Cond.initialized RX7, Cond.code yX7_isThere cX7_isThere 2 (some .boolean), Cond.fieldLink RX7 106 "LimitTokens$Token" "there" "Z", Cond.methodLink RX7 100 yX7_isTokenNumber, Cond.static yX7_isTokenNumber, Cond.code yX7_isTokenNumber cX7_isTokenNumber 1 (some .boolean), Cond.methodLink RX7 68 yX7_isRegister, Cond.static yX7_isRegister, Cond.code yX7_isRegister cX7_isRegister 1 (some .boolean), Cond.methodLink RX7 103 yX7_isWordingLength, Cond.static yX7_isWordingLength, Cond.code yX7_isWordingLength cX7_isWordingLength 1 (some .boolean)]
def wsX7_limit_r2 : List Cond := [Cond.methodLink RX7 126 yX6_isFull, Cond.instanceMethod yX6_isFull, Cond.selects RX6 yX6_isFull yX6_isFull, Cond.initialized RX6, Cond.code yX6_isFull cX6_isFull 1 (some .boolean), Cond.fieldLink RX6 30 "LimitTokens$Token" "count" "I", Cond.methodLink RX7 116 yX3_takeOver, Cond.instanceMethod yX3_takeOver, Cond.selects RX3 yX3_takeOver yX3_takeOver, Cond.initialized RX3, Cond.code yX3_takeOver cX3_takeOver 2 none, Cond.fieldLink RX3 21 "LimitTokens$Row" "length" "I", Cond.methodLink RX3 25 yX3_pushPart, Cond.instanceMethod yX3_pushPart, Cond.selects RX3 yX3_pushPart yX3_pushPart, Cond.code yX3_pushPart cX3_pushPart 4 none, Cond.fieldLink RX3 15 "LimitTokens$Row" "bytes" "[I", Cond.methodLink RX3 29 arraycopyName, Cond.native arraycopyName, Cond.static arraycopyName, Cond.initialized "java/lang/System", Cond.methodLink RX7 83 yX3_makeEmpty, Cond.instanceMethod yX3_makeEmpty, Cond.selects RX3 yX3_makeEmpty yX3_makeEmpty]
def wsX7_limit_r3 : List Cond := [Cond.code yX3_makeEmpty cX3_makeEmpty 1 none, Cond.methodLink RX7 142 yX4_goOnOwn, Cond.instanceMethod yX4_goOnOwn, Cond.selects RX4 yX4_goOnOwn yX4_goOnOwn, Cond.initialized RX4, Cond.code yX4_goOnOwn cX4_goOnOwn 3 none, Cond.fieldLink RX4 65 "LimitTokens$Limit" "text" "LLimitTokens$Row;", Cond.methodLink RX4 70 yX4_sealInto, Cond.instanceMethod yX4_sealInto, Cond.selects RX4 yX4_sealInto yX4_sealInto, Cond.code yX4_sealInto cX4_sealInto 4 none, Cond.fieldLink RX4 55 "LimitTokens$Row" "length" "I", Cond.fieldLink RX4 23 "LimitTokens$Sealer" "work" "LLimitTokens$Row;", Cond.fieldLink RX4 27 "LimitTokens$Sealer" "keyBlock" "LLimitTokens$Row;", Cond.fieldLink RX4 30 "LimitTokens$Sealer" "inner" "LLimitTokens$Row;", Cond.methodLink RX4 48 yX3_takeOver, Cond.methodLink RX4 52 yX4_hashWork, Cond.instanceMethod yX4_hashWork, Cond.selects RX4 yX4_hashWork yX4_hashWork, Cond.code yX4_hashWork cX4_hashWork 4 none, Cond.fieldLink RX4 94 "LimitTokens$Sealer" "SQUARE_ROOTS" "[I", Cond.fieldLink RX4 11 "LimitTokens$Sealer" "state" "[I", Cond.methodLink RX4 97 arraycopyName, Cond.methodLink RX4 88 yX3_push]
def wsX7_limit_r4 : List Cond := [Cond.instanceMethod yX3_push, Cond.selects RX3 yX3_push yX3_push, Cond.code yX3_push cX3_push 2 none, Cond.methodLink RX4 45 yX3_pushZeros, Cond.instanceMethod yX3_pushZeros, Cond.selects RX3 yX3_pushZeros yX3_pushZeros, Cond.code yX3_pushZeros cX3_pushZeros 3 none, Cond.methodLink RX4 91 yX3_pushWord, Cond.instanceMethod yX3_pushWord, Cond.selects RX3 yX3_pushWord yX3_pushWord, Cond.code yX3_pushWord cX3_pushWord 2 none, Cond.methodLink RX4 103 yX4_spreadWords, Cond.instanceMethod yX4_spreadWords, Cond.selects RX4 yX4_spreadWords yX4_spreadWords, Cond.code yX4_spreadWords cX4_spreadWords 6 none, Cond.fieldLink RX4 112 "LimitTokens$Row" "bytes" "[I", Cond.fieldLink RX4 15 "LimitTokens$Sealer" "words" "[I", Cond.methodLink RX4 106 yX4_mixWords, Cond.instanceMethod yX4_mixWords, Cond.selects RX4 yX4_mixWords yX4_mixWords, Cond.code yX4_mixWords cX4_mixWords 12 none, Cond.fieldLink RX4 109 "LimitTokens$Sealer" "CUBE_ROOTS" "[I", Cond.methodLink RX4 85 yX3_makeEmpty, Cond.methodLink RX4 59 yX4_startWork]
def wsX7_limit_r5 : List Cond := [Cond.instanceMethod yX4_startWork, Cond.selects RX4 yX4_startWork yX4_startWork, Cond.code yX4_startWork cX4_startWork 3 none, Cond.methodLink RX4 77 yX3_byteAt, Cond.instanceMethod yX3_byteAt, Cond.selects RX3 yX3_byteAt yX3_byteAt, Cond.code yX3_byteAt cX3_byteAt 2 (some .int), Cond.methodLink RX4 62 yX3_pushAll, Cond.instanceMethod yX3_pushAll, Cond.selects RX3 yX3_pushAll yX3_pushAll, Cond.code yX3_pushAll cX3_pushAll 2 none]
def wsX7_limit : List Cond := .code yX7_limit cX7_limit 5 (some .int) :: ((wsX7_limit_r1 ++ (wsX7_limit_r2 ++ (wsX7_limit_r3 ++ (wsX7_limit_r4 ++ wsX7_limit_r5)))) ++ wsX70 ++ wsX30 ++ wsX60 ++ wsX10 ++ wsX40)
def wsX7_others_r1 : List Cond := [Cond.fieldLink RX7 40 "LimitTokens" "tokens" "[LLimitTokens$Token;", Cond.fieldLink RX7 11 "LimitTokens" "registers" "[LLimitTokens$Row;", Cond.fieldLink RX7 79 "LimitTokens$Row" "length" "I", Cond.fieldLink RX7 130 "LimitTokens$Token" "limits" "[LLimitTokens$Limit;", Cond.fieldLink RX7 110 "LimitTokens$Token" "count" "I", Cond.fieldLink RX7 134 "LimitTokens$Limit" "text" "LLimitTokens$Row;", Cond.fieldLink RX7 45 "LimitTokens" "sealer" "LLimitTokens$Sealer;", Cond.fieldLink RX7 139 "LimitTokens$Limit" "lock" "LLimitTokens$Row;", Cond.fieldLink RX7 120 "LimitTokens$Token" "sign" "LLimitTokens$Row;", Cond.methodLink RX7 123 yX7_isThere, Cond.instanceMethod yX7_isThere, Cond.selects RX7 yX7_isThere yX7_isThere, Cond.initialized RX7, Cond.code yX7_isThere cX7_isThere 2 (some .boolean), Cond.fieldLink RX7 106 "LimitTokens$Token" "there" "Z", Cond.methodLink RX7 100 yX7_isTokenNumber, Cond.static yX7_isTokenNumber, Cond.code yX7_isTokenNumber cX7_isTokenNumber 1 (some .boolean), Cond.methodLink RX7 68 yX7_isRegister, Cond.static yX7_isRegister, Cond.code yX7_isRegister cX7_isRegister 1 (some .boolean), Cond.methodLink RX7 103 yX7_isWordingLength, Cond.static yX7_isWordingLength, Cond.code yX7_isWordingLength cX7_isWordingLength 1 (some .boolean)]
def wsX7_others_r2 : List Cond := [Cond.methodLink RX7 126 yX6_isFull, Cond.instanceMethod yX6_isFull, Cond.selects RX6 yX6_isFull yX6_isFull, Cond.initialized RX6, Cond.code yX6_isFull cX6_isFull 1 (some .boolean), Cond.fieldLink RX6 30 "LimitTokens$Token" "count" "I", Cond.methodLink RX7 116 yX3_takeOver, Cond.instanceMethod yX3_takeOver, Cond.selects RX3 yX3_takeOver yX3_takeOver, Cond.initialized RX3, Cond.code yX3_takeOver cX3_takeOver 2 none, Cond.fieldLink RX3 21 "LimitTokens$Row" "length" "I", Cond.methodLink RX3 25 yX3_pushPart, Cond.instanceMethod yX3_pushPart, Cond.selects RX3 yX3_pushPart yX3_pushPart, Cond.code yX3_pushPart cX3_pushPart 4 none, Cond.fieldLink RX3 15 "LimitTokens$Row" "bytes" "[I", Cond.methodLink RX3 29 arraycopyName, Cond.native arraycopyName, Cond.static arraycopyName, Cond.initialized "java/lang/System", Cond.methodLink RX7 146 yX4_turnKey, Cond.instanceMethod yX4_turnKey, Cond.selects RX4 yX4_turnKey yX4_turnKey]
def wsX7_others_r3 : List Cond := [Cond.initialized RX4, Cond.code yX4_turnKey cX4_turnKey 6 none, Cond.fieldLink RX4 36 "LimitTokens$Sealer" "textSeal" "LLimitTokens$Row;", Cond.methodLink RX4 70 yX4_sealInto, Cond.instanceMethod yX4_sealInto, Cond.selects RX4 yX4_sealInto yX4_sealInto, Cond.code yX4_sealInto cX4_sealInto 4 none, Cond.fieldLink RX4 55 "LimitTokens$Row" "length" "I", Cond.fieldLink RX4 23 "LimitTokens$Sealer" "work" "LLimitTokens$Row;", Cond.fieldLink RX4 27 "LimitTokens$Sealer" "keyBlock" "LLimitTokens$Row;", Cond.fieldLink RX4 30 "LimitTokens$Sealer" "inner" "LLimitTokens$Row;", Cond.methodLink RX4 48 yX3_takeOver, Cond.methodLink RX4 52 yX4_hashWork, Cond.instanceMethod yX4_hashWork, Cond.selects RX4 yX4_hashWork yX4_hashWork, Cond.code yX4_hashWork cX4_hashWork 4 none, Cond.fieldLink RX4 94 "LimitTokens$Sealer" "SQUARE_ROOTS" "[I", Cond.fieldLink RX4 11 "LimitTokens$Sealer" "state" "[I", Cond.methodLink RX4 97 arraycopyName, Cond.methodLink RX4 88 yX3_push, Cond.instanceMethod yX3_push, Cond.selects RX3 yX3_push yX3_push, Cond.code yX3_push cX3_push 2 none, Cond.methodLink RX4 45 yX3_pushZeros]
def wsX7_others_r4 : List Cond := [Cond.instanceMethod yX3_pushZeros, Cond.selects RX3 yX3_pushZeros yX3_pushZeros, Cond.code yX3_pushZeros cX3_pushZeros 3 none, Cond.methodLink RX4 91 yX3_pushWord, Cond.instanceMethod yX3_pushWord, Cond.selects RX3 yX3_pushWord yX3_pushWord, Cond.code yX3_pushWord cX3_pushWord 2 none, Cond.methodLink RX4 103 yX4_spreadWords, Cond.instanceMethod yX4_spreadWords, Cond.selects RX4 yX4_spreadWords yX4_spreadWords, Cond.code yX4_spreadWords cX4_spreadWords 6 none, Cond.fieldLink RX4 112 "LimitTokens$Row" "bytes" "[I", Cond.fieldLink RX4 15 "LimitTokens$Sealer" "words" "[I", Cond.methodLink RX4 106 yX4_mixWords, Cond.instanceMethod yX4_mixWords, Cond.selects RX4 yX4_mixWords yX4_mixWords, Cond.code yX4_mixWords cX4_mixWords 12 none, Cond.fieldLink RX4 109 "LimitTokens$Sealer" "CUBE_ROOTS" "[I", Cond.methodLink RX4 85 yX3_makeEmpty, Cond.instanceMethod yX3_makeEmpty, Cond.selects RX3 yX3_makeEmpty yX3_makeEmpty, Cond.code yX3_makeEmpty cX3_makeEmpty 1 none, Cond.methodLink RX4 59 yX4_startWork, Cond.instanceMethod yX4_startWork]
def wsX7_others_r5 : List Cond := [Cond.selects RX4 yX4_startWork yX4_startWork, Cond.code yX4_startWork cX4_startWork 3 none, Cond.methodLink RX4 77 yX3_byteAt, Cond.instanceMethod yX3_byteAt, Cond.selects RX3 yX3_byteAt yX3_byteAt, Cond.code yX3_byteAt cX3_byteAt 2 (some .int), Cond.methodLink RX4 62 yX3_pushAll, Cond.instanceMethod yX3_pushAll, Cond.selects RX3 yX3_pushAll yX3_pushAll, Cond.code yX3_pushAll cX3_pushAll 2 none, Cond.methodLink RX4 81 yX3_flip, Cond.instanceMethod yX3_flip, Cond.selects RX3 yX3_flip yX3_flip, Cond.code yX3_flip cX3_flip 3 (some .int), Cond.methodLink RX3 35 yX3_has, Cond.instanceMethod yX3_has, Cond.selects RX3 yX3_has yX3_has, Cond.code yX3_has cX3_has 2 (some .boolean), Cond.methodLink RX7 150 yX4_goOnOthers, Cond.instanceMethod yX4_goOnOthers, Cond.selects RX4 yX4_goOnOthers yX4_goOnOthers, Cond.code yX4_goOnOthers cX4_goOnOthers 3 none, Cond.fieldLink RX4 39 "LimitTokens$Sealer" "lockSeal" "LLimitTokens$Row;", Cond.fieldLink RX4 74 "LimitTokens$Limit" "lock" "LLimitTokens$Row;"]
def wsX7_others_r6 : List Cond := [Cond.fieldLink RX4 65 "LimitTokens$Limit" "text" "LLimitTokens$Row;", Cond.fieldLink RX4 33 "LimitTokens$Sealer" "pair" "LLimitTokens$Row;"]
def wsX7_others : List Cond := .code yX7_others cX7_others 6 (some .int) :: ((wsX7_others_r1 ++ (wsX7_others_r2 ++ (wsX7_others_r3 ++ (wsX7_others_r4 ++ (wsX7_others_r5 ++ wsX7_others_r6))))) ++ wsX70 ++ wsX30 ++ wsX60 ++ wsX10 ++ wsX40)
def wsX7_bind_r1 : List Cond := [Cond.fieldLink RX7 45 "LimitTokens" "sealer" "LLimitTokens$Sealer;", Cond.fieldLink RX7 40 "LimitTokens" "tokens" "[LLimitTokens$Token;", Cond.fieldLink RX7 120 "LimitTokens$Token" "sign" "LLimitTokens$Row;", Cond.methodLink RX7 123 yX7_isThere, Cond.instanceMethod yX7_isThere, Cond.selects RX7 yX7_isThere yX7_isThere, Cond.initialized RX7, Cond.code yX7_isThere cX7_isThere 2 (some .boolean), Cond.fieldLink RX7 106 "LimitTokens$Token" "there" "Z", Cond.methodLink RX7 100 yX7_isTokenNumber, Cond.static yX7_isTokenNumber, Cond.code yX7_isTokenNumber cX7_isTokenNumber 1 (some .boolean), Cond.methodLink RX7 153 yX4_bindSign, Cond.instanceMethod yX4_bindSign, Cond.selects RX4 yX4_bindSign yX4_bindSign, Cond.initialized RX4, Cond.code yX4_bindSign cX4_bindSign 3 none, Cond.fieldLink RX4 33 "LimitTokens$Sealer" "pair" "LLimitTokens$Row;", Cond.fieldLink RX4 42 "LimitTokens$Sealer" "zeroKey" "LLimitTokens$Row;", Cond.methodLink RX4 48 yX3_takeOver, Cond.instanceMethod yX3_takeOver, Cond.selects RX3 yX3_takeOver yX3_takeOver, Cond.initialized RX3, Cond.code yX3_takeOver cX3_takeOver 2 none]
def wsX7_bind_r2 : List Cond := [Cond.fieldLink RX3 21 "LimitTokens$Row" "length" "I", Cond.methodLink RX3 25 yX3_pushPart, Cond.instanceMethod yX3_pushPart, Cond.selects RX3 yX3_pushPart yX3_pushPart, Cond.code yX3_pushPart cX3_pushPart 4 none, Cond.fieldLink RX3 15 "LimitTokens$Row" "bytes" "[I", Cond.methodLink RX3 29 arraycopyName, Cond.native arraycopyName, Cond.static arraycopyName, Cond.initialized "java/lang/System", Cond.methodLink RX4 62 yX3_pushAll, Cond.instanceMethod yX3_pushAll, Cond.selects RX3 yX3_pushAll yX3_pushAll, Cond.code yX3_pushAll cX3_pushAll 2 none, Cond.methodLink RX4 70 yX4_sealInto, Cond.instanceMethod yX4_sealInto, Cond.selects RX4 yX4_sealInto yX4_sealInto, Cond.code yX4_sealInto cX4_sealInto 4 none, Cond.fieldLink RX4 55 "LimitTokens$Row" "length" "I", Cond.fieldLink RX4 23 "LimitTokens$Sealer" "work" "LLimitTokens$Row;", Cond.fieldLink RX4 27 "LimitTokens$Sealer" "keyBlock" "LLimitTokens$Row;", Cond.fieldLink RX4 30 "LimitTokens$Sealer" "inner" "LLimitTokens$Row;", Cond.methodLink RX4 52 yX4_hashWork, Cond.instanceMethod yX4_hashWork]
def wsX7_bind_r3 : List Cond := [Cond.selects RX4 yX4_hashWork yX4_hashWork, Cond.code yX4_hashWork cX4_hashWork 4 none, Cond.fieldLink RX4 94 "LimitTokens$Sealer" "SQUARE_ROOTS" "[I", Cond.fieldLink RX4 11 "LimitTokens$Sealer" "state" "[I", Cond.methodLink RX4 97 arraycopyName, Cond.methodLink RX4 88 yX3_push, Cond.instanceMethod yX3_push, Cond.selects RX3 yX3_push yX3_push, Cond.code yX3_push cX3_push 2 none, Cond.methodLink RX4 45 yX3_pushZeros, Cond.instanceMethod yX3_pushZeros, Cond.selects RX3 yX3_pushZeros yX3_pushZeros, Cond.code yX3_pushZeros cX3_pushZeros 3 none, Cond.methodLink RX4 91 yX3_pushWord, Cond.instanceMethod yX3_pushWord, Cond.selects RX3 yX3_pushWord yX3_pushWord, Cond.code yX3_pushWord cX3_pushWord 2 none, Cond.methodLink RX4 103 yX4_spreadWords, Cond.instanceMethod yX4_spreadWords, Cond.selects RX4 yX4_spreadWords yX4_spreadWords, Cond.code yX4_spreadWords cX4_spreadWords 6 none, Cond.fieldLink RX4 112 "LimitTokens$Row" "bytes" "[I", Cond.fieldLink RX4 15 "LimitTokens$Sealer" "words" "[I", Cond.methodLink RX4 106 yX4_mixWords]
def wsX7_bind_r4 : List Cond := [Cond.instanceMethod yX4_mixWords, Cond.selects RX4 yX4_mixWords yX4_mixWords, Cond.code yX4_mixWords cX4_mixWords 12 none, Cond.fieldLink RX4 109 "LimitTokens$Sealer" "CUBE_ROOTS" "[I", Cond.methodLink RX4 85 yX3_makeEmpty, Cond.instanceMethod yX3_makeEmpty, Cond.selects RX3 yX3_makeEmpty yX3_makeEmpty, Cond.code yX3_makeEmpty cX3_makeEmpty 1 none, Cond.methodLink RX4 59 yX4_startWork, Cond.instanceMethod yX4_startWork, Cond.selects RX4 yX4_startWork yX4_startWork, Cond.code yX4_startWork cX4_startWork 3 none, Cond.methodLink RX4 77 yX3_byteAt, Cond.instanceMethod yX3_byteAt, Cond.selects RX3 yX3_byteAt yX3_byteAt, Cond.code yX3_byteAt cX3_byteAt 2 (some .int)]
def wsX7_bind : List Cond := .code yX7_bind cX7_bind 3 (some .int) :: ((wsX7_bind_r1 ++ (wsX7_bind_r2 ++ (wsX7_bind_r3 ++ wsX7_bind_r4))) ++ wsX70 ++ wsX60 ++ wsX40 ++ wsX30)
def wsX7_copy_r1 : List Cond := [Cond.fieldLink RX7 40 "LimitTokens" "tokens" "[LLimitTokens$Token;", Cond.fieldLink RX7 110 "LimitTokens$Token" "count" "I", Cond.methodLink RX7 123 yX7_isThere, Cond.instanceMethod yX7_isThere, Cond.selects RX7 yX7_isThere yX7_isThere, Cond.initialized RX7, Cond.code yX7_isThere cX7_isThere 2 (some .boolean), Cond.fieldLink RX7 106 "LimitTokens$Token" "there" "Z", Cond.methodLink RX7 100 yX7_isTokenNumber, Cond.static yX7_isTokenNumber, Cond.code yX7_isTokenNumber cX7_isTokenNumber 1 (some .boolean), Cond.methodLink RX7 156 yX6_takeOver, Cond.instanceMethod yX6_takeOver, Cond.selects RX6 yX6_takeOver yX6_takeOver, Cond.initialized RX6, Cond.code yX6_takeOver cX6_takeOver 3 none, Cond.fieldLink RX6 14 "LimitTokens$Token" "name" "LLimitTokens$Row;", Cond.fieldLink RX6 20 "LimitTokens$Token" "sign" "LLimitTokens$Row;", Cond.fieldLink RX6 30 "LimitTokens$Token" "count" "I", Cond.fieldLink RX6 25 "LimitTokens$Token" "limits" "[LLimitTokens$Limit;", Cond.fieldLink RX6 51 "LimitTokens$Token" "there" "Z", Cond.methodLink RX6 44 yX3_takeOver, Cond.instanceMethod yX3_takeOver, Cond.selects RX3 yX3_takeOver yX3_takeOver]
def wsX7_copy_r2 : List Cond := [Cond.initialized RX3, Cond.code yX3_takeOver cX3_takeOver 2 none, Cond.fieldLink RX3 21 "LimitTokens$Row" "length" "I", Cond.methodLink RX3 25 yX3_pushPart, Cond.instanceMethod yX3_pushPart, Cond.selects RX3 yX3_pushPart yX3_pushPart, Cond.code yX3_pushPart cX3_pushPart 4 none, Cond.fieldLink RX3 15 "LimitTokens$Row" "bytes" "[I", Cond.methodLink RX3 29 arraycopyName, Cond.native arraycopyName, Cond.static arraycopyName, Cond.initialized "java/lang/System", Cond.methodLink RX6 48 yX1_takeOver, Cond.instanceMethod yX1_takeOver, Cond.selects RX1 yX1_takeOver yX1_takeOver, Cond.initialized RX1, Cond.code yX1_takeOver cX1_takeOver 2 none, Cond.fieldLink RX1 14 "LimitTokens$Limit" "text" "LLimitTokens$Row;", Cond.fieldLink RX1 20 "LimitTokens$Limit" "lock" "LLimitTokens$Row;", Cond.methodLink RX1 27 yX3_takeOver]
def wsX7_copy : List Cond := .code yX7_copy cX7_copy 3 (some .int) :: ((wsX7_copy_r1 ++ wsX7_copy_r2) ++ wsX70 ++ wsX60 ++ wsX30 ++ wsX10)
def wsX7_drop : List Cond := .code yX7_drop cX7_drop 3 (some .int) :: ([.fieldLink RX7 40 "LimitTokens" "tokens" "[LLimitTokens$Token;", .fieldLink RX7 106 "LimitTokens$Token" "there" "Z", .methodLink RX7 100 yX7_isTokenNumber, .static yX7_isTokenNumber, .initialized RX7, .code yX7_isTokenNumber cX7_isTokenNumber 1 (some .boolean)] ++ wsX70 ++ wsX60)
def wsX7_told_r1 : List Cond := [Cond.fieldLink RX7 40 "LimitTokens" "tokens" "[LLimitTokens$Token;", Cond.fieldLink RX7 113 "LimitTokens$Token" "name" "LLimitTokens$Row;", Cond.fieldLink RX7 79 "LimitTokens$Row" "length" "I", Cond.fieldLink RX7 110 "LimitTokens$Token" "count" "I", Cond.methodLink RX7 123 yX7_isThere, Cond.instanceMethod yX7_isThere, Cond.selects RX7 yX7_isThere yX7_isThere, Cond.initialized RX7, Cond.code yX7_isThere cX7_isThere 2 (some .boolean), Cond.fieldLink RX7 106 "LimitTokens$Token" "there" "Z", Cond.methodLink RX7 100 yX7_isTokenNumber, Cond.static yX7_isTokenNumber, Cond.code yX7_isTokenNumber cX7_isTokenNumber 1 (some .boolean), Cond.methodLink RX7 159 yX6_limitTold, Cond.instanceMethod yX6_limitTold, Cond.selects RX6 yX6_limitTold yX6_limitTold, Cond.initialized RX6, Cond.code yX6_limitTold cX6_limitTold 2 (some .int), Cond.fieldLink RX6 30 "LimitTokens$Token" "count" "I", Cond.fieldLink RX6 25 "LimitTokens$Token" "limits" "[LLimitTokens$Limit;", Cond.fieldLink RX6 34 "LimitTokens$Limit" "text" "LLimitTokens$Row;", Cond.fieldLink RX6 37 "LimitTokens$Row" "length" "I", Cond.methodLink RX6 40 yX1_isOfOthers, Cond.instanceMethod yX1_isOfOthers]
def wsX7_told_r2 : List Cond := [Cond.selects RX1 yX1_isOfOthers yX1_isOfOthers, Cond.initialized RX1, Cond.code yX1_isOfOthers cX1_isOfOthers 1 (some .boolean), Cond.fieldLink RX1 20 "LimitTokens$Limit" "lock" "LLimitTokens$Row;", Cond.fieldLink RX1 23 "LimitTokens$Row" "length" "I"]
def wsX7_told : List Cond := .code yX7_told cX7_told 3 (some .int) :: ((wsX7_told_r1 ++ wsX7_told_r2) ++ wsX70 ++ wsX60 ++ wsX30 ++ wsX10)
def wsX7_sign : List Cond := .code yX7_sign cX7_sign 3 (some .int) :: ([.fieldLink RX7 40 "LimitTokens" "tokens" "[LLimitTokens$Token;", .fieldLink RX7 120 "LimitTokens$Token" "sign" "LLimitTokens$Row;", .methodLink RX7 123 yX7_isThere, .instanceMethod yX7_isThere, .selects RX7 yX7_isThere yX7_isThere, .initialized RX7, .code yX7_isThere cX7_isThere 2 (some .boolean), .fieldLink RX7 106 "LimitTokens$Token" "there" "Z", .methodLink RX7 100 yX7_isTokenNumber, .static yX7_isTokenNumber, .code yX7_isTokenNumber cX7_isTokenNumber 1 (some .boolean), .methodLink RX7 162 yX3_has, .instanceMethod yX3_has, .selects RX3 yX3_has yX3_has, .initialized RX3, .code yX3_has cX3_has 2 (some .boolean), .fieldLink RX3 21 "LimitTokens$Row" "length" "I", .methodLink RX7 86 yX3_byteAt, .instanceMethod yX3_byteAt, .selects RX3 yX3_byteAt yX3_byteAt, .code yX3_byteAt cX3_byteAt 2 (some .int), .fieldLink RX3 15 "LimitTokens$Row" "bytes" "[I"] ++ wsX70 ++ wsX60 ++ wsX30)
def wsX7_isByte : List Cond := .code yX7_isByte cX7_isByte 1 (some .boolean) :: ([])
def wsX7_spoil_r1 : List Cond := [Cond.fieldLink RX7 40 "LimitTokens" "tokens" "[LLimitTokens$Token;", Cond.fieldLink RX7 110 "LimitTokens$Token" "count" "I", Cond.fieldLink RX7 120 "LimitTokens$Token" "sign" "LLimitTokens$Row;", Cond.fieldLink RX7 130 "LimitTokens$Token" "limits" "[LLimitTokens$Limit;", Cond.fieldLink RX7 134 "LimitTokens$Limit" "text" "LLimitTokens$Row;", Cond.methodLink RX7 123 yX7_isThere, Cond.instanceMethod yX7_isThere, Cond.selects RX7 yX7_isThere yX7_isThere, Cond.initialized RX7, Cond.code yX7_isThere cX7_isThere 2 (some .boolean), Cond.fieldLink RX7 106 "LimitTokens$Token" "there" "Z", Cond.methodLink RX7 100 yX7_isTokenNumber, Cond.static yX7_isTokenNumber, Cond.code yX7_isTokenNumber cX7_isTokenNumber 1 (some .boolean), Cond.methodLink RX7 165 yX7_isByte, Cond.static yX7_isByte, Cond.code yX7_isByte cX7_isByte 1 (some .boolean), Cond.methodLink RX7 162 yX3_has, Cond.instanceMethod yX3_has, Cond.selects RX3 yX3_has yX3_has, Cond.initialized RX3, Cond.code yX3_has cX3_has 2 (some .boolean), Cond.fieldLink RX3 21 "LimitTokens$Row" "length" "I", Cond.methodLink RX7 168 yX3_flip]
def wsX7_spoil_r2 : List Cond := [Cond.instanceMethod yX3_flip, Cond.selects RX3 yX3_flip yX3_flip, Cond.code yX3_flip cX3_flip 3 (some .int), Cond.fieldLink RX3 15 "LimitTokens$Row" "bytes" "[I", Cond.methodLink RX3 35 yX3_has]
def wsX7_spoil : List Cond := .code yX7_spoil cX7_spoil 6 (some .int) :: ((wsX7_spoil_r1 ++ wsX7_spoil_r2) ++ wsX70 ++ wsX60 ++ wsX10 ++ wsX30)
def wsX7_ask : List Cond := .code yX7_ask cX7_ask 4 (some .int) :: ([.constant RX7 172 (999999), .fieldLink RX7 57 "LimitTokens" "request" "[I"] ++ wsX70)
def wsX7_truth_r1 : List Cond := [Cond.fieldLink RX7 50 "LimitTokens" "judge" "LLimitTokens$Judge;", Cond.fieldLink RX7 11 "LimitTokens" "registers" "[LLimitTokens$Row;", Cond.methodLink RX7 68 yX7_isRegister, Cond.static yX7_isRegister, Cond.initialized RX7, Cond.code yX7_isRegister cX7_isRegister 1 (some .boolean), Cond.methodLink RX7 173 yX0_judgeText, Cond.instanceMethod yX0_judgeText, Cond.selects RX0 yX0_judgeText yX0_judgeText, Cond.initialized RX0, Cond.code yX0_judgeText cX0_judgeText 7 (some .int), Cond.fieldLink RX0 15 "LimitTokens$Judge" "position" "I", Cond.fieldLink RX0 19 "LimitTokens$Row" "length" "I", Cond.methodLink RX0 24 yX0_judgeTest, Cond.instanceMethod yX0_judgeTest, Cond.selects RX0 yX0_judgeTest yX0_judgeTest, Cond.code yX0_judgeTest cX0_judgeTest 6 (some .int), Cond.fieldLink RX0 9 "LimitTokens$Judge" "request" "[I", Cond.methodLink RX0 28 yX3_byteAt, Cond.instanceMethod yX3_byteAt, Cond.selects RX3 yX3_byteAt yX3_byteAt, Cond.initialized RX3, Cond.code yX3_byteAt cX3_byteAt 2 (some .int), Cond.fieldLink RX3 21 "LimitTokens$Row" "length" "I"]
def wsX7_truth_r2 : List Cond := [Cond.fieldLink RX3 15 "LimitTokens$Row" "bytes" "[I", Cond.methodLink RX0 32 yX0_takeNumber, Cond.instanceMethod yX0_takeNumber, Cond.selects RX0 yX0_takeNumber yX0_takeNumber, Cond.code yX0_takeNumber cX0_takeNumber 5 (some .int), Cond.methodLink RX0 43 Lib.Math.max.name, Cond.static Lib.Math.max.name, Cond.initialized "java/lang/Math", Cond.code Lib.Math.max.name Lib.Math.max.code 2 (some .int), Cond.methodLink RX0 35 yX0_isKind, Cond.static yX0_isKind, Cond.code yX0_isKind cX0_isKind 1 (some .boolean), Cond.methodLink RX0 39 yX0_holds, Cond.static yX0_holds, Cond.code yX0_holds cX0_holds 3 (some .boolean)]
def wsX7_truth : List Cond := .code yX7_truth cX7_truth 2 (some .int) :: ((wsX7_truth_r1 ++ wsX7_truth_r2) ++ wsX70 ++ wsX00 ++ wsX30)
def wsX7_areThere : List Cond := .code yX7_areThere cX7_areThere 3 (some .boolean) :: ([.fieldLink RX7 40 "LimitTokens" "tokens" "[LLimitTokens$Token;", .fieldLink RX7 106 "LimitTokens$Token" "there" "Z"] ++ wsX70 ++ wsX60)
def wsX7_prove_r1 : List Cond := [Cond.fieldLink RX7 18 "LimitTokens" "prover" "LLimitTokens$Prover;", Cond.fieldLink RX7 11 "LimitTokens" "registers" "[LLimitTokens$Row;", Cond.fieldLink RX7 191 "LimitTokens$Prover" "found" "I", Cond.methodLink RX7 123 yX7_isThere, Cond.instanceMethod yX7_isThere, Cond.selects RX7 yX7_isThere yX7_isThere, Cond.initialized RX7, Cond.code yX7_isThere cX7_isThere 2 (some .boolean), Cond.fieldLink RX7 40 "LimitTokens" "tokens" "[LLimitTokens$Token;", Cond.fieldLink RX7 106 "LimitTokens$Token" "there" "Z", Cond.methodLink RX7 100 yX7_isTokenNumber, Cond.static yX7_isTokenNumber, Cond.code yX7_isTokenNumber cX7_isTokenNumber 1 (some .boolean), Cond.methodLink RX7 68 yX7_isRegister, Cond.static yX7_isRegister, Cond.code yX7_isRegister cX7_isRegister 1 (some .boolean), Cond.methodLink RX7 177 yX7_areThere, Cond.instanceMethod yX7_areThere, Cond.selects RX7 yX7_areThere yX7_areThere, Cond.code yX7_areThere cX7_areThere 3 (some .boolean), Cond.methodLink RX7 180 yX2_begin, Cond.instanceMethod yX2_begin, Cond.selects RX2 yX2_begin yX2_begin, Cond.initialized RX2]
def wsX7_prove_r2 : List Cond := [Cond.code yX2_begin cX2_begin 3 none, Cond.fieldLink RX2 54 "LimitTokens$Prover" "proved" "I", Cond.fieldLink RX2 57 "LimitTokens$Prover" "waiting" "I", Cond.fieldLink RX2 60 "LimitTokens$Prover" "found" "I", Cond.fieldLink RX2 40 "LimitTokens$Prover" "foundToken" "I", Cond.fieldLink RX2 44 "LimitTokens$Prover" "foundLimit" "I", Cond.fieldLink RX2 47 "LimitTokens$Prover" "begun" "I", Cond.instanceMethod yX2_walk, Cond.selects RX2 yX2_walk yX2_walk, Cond.code yX2_walk cX2_walk 7 (some .boolean), Cond.fieldLink RX2 11 "LimitTokens$Prover" "tokens" "[LLimitTokens$Token;", Cond.fieldLink RX2 20 "LimitTokens$Prover" "sealer" "LLimitTokens$Sealer;", Cond.fieldLink RX2 33 "LimitTokens$Prover" "signs" "[LLimitTokens$Row;", Cond.fieldLink RX2 63 "LimitTokens$Token" "name" "LLimitTokens$Row;", Cond.fieldLink RX2 71 "LimitTokens$Token" "count" "I", Cond.fieldLink RX2 74 "LimitTokens$Token" "limits" "[LLimitTokens$Limit;", Cond.methodLink RX2 67 yX4_sealInto, Cond.instanceMethod yX4_sealInto, Cond.selects RX4 yX4_sealInto yX4_sealInto, Cond.initialized RX4, Cond.code yX4_sealInto cX4_sealInto 4 none, Cond.fieldLink RX4 55 "LimitTokens$Row" "length" "I", Cond.fieldLink RX4 23 "LimitTokens$Sealer" "work" "LLimitTokens$Row;", Cond.fieldLink RX4 27 "LimitTokens$Sealer" "keyBlock" "LLimitTokens$Row;"]
def wsX7_prove_r3 : List Cond := [Cond.fieldLink RX4 30 "LimitTokens$Sealer" "inner" "LLimitTokens$Row;", Cond.methodLink RX4 48 yX3_takeOver, Cond.instanceMethod yX3_takeOver, Cond.selects RX3 yX3_takeOver yX3_takeOver, Cond.initialized RX3, Cond.code yX3_takeOver cX3_takeOver 2 none, Cond.fieldLink RX3 21 "LimitTokens$Row" "length" "I", Cond.methodLink RX3 25 yX3_pushPart, Cond.instanceMethod yX3_pushPart, Cond.selects RX3 yX3_pushPart yX3_pushPart, Cond.code yX3_pushPart cX3_pushPart 4 none, Cond.fieldLink RX3 15 "LimitTokens$Row" "bytes" "[I", Cond.methodLink RX3 29 arraycopyName, Cond.native arraycopyName, Cond.static arraycopyName, Cond.initialized "java/lang/System", Cond.methodLink RX4 52 yX4_hashWork, Cond.instanceMethod yX4_hashWork, Cond.selects RX4 yX4_hashWork yX4_hashWork, Cond.code yX4_hashWork cX4_hashWork 4 none, Cond.fieldLink RX4 94 "LimitTokens$Sealer" "SQUARE_ROOTS" "[I", Cond.fieldLink RX4 11 "LimitTokens$Sealer" "state" "[I", Cond.methodLink RX4 97 arraycopyName, Cond.methodLink RX4 88 yX3_push]
def wsX7_prove_r4 : List Cond := [Cond.instanceMethod yX3_push, Cond.selects RX3 yX3_push yX3_push, Cond.code yX3_push cX3_push 2 none, Cond.methodLink RX4 45 yX3_pushZeros, Cond.instanceMethod yX3_pushZeros, Cond.selects RX3 yX3_pushZeros yX3_pushZeros, Cond.code yX3_pushZeros cX3_pushZeros 3 none, Cond.methodLink RX4 91 yX3_pushWord, Cond.instanceMethod yX3_pushWord, Cond.selects RX3 yX3_pushWord yX3_pushWord, Cond.code yX3_pushWord cX3_pushWord 2 none, Cond.methodLink RX4 103 yX4_spreadWords, Cond.instanceMethod yX4_spreadWords, Cond.selects RX4 yX4_spreadWords yX4_spreadWords, Cond.code yX4_spreadWords cX4_spreadWords 6 none, Cond.fieldLink RX4 112 "LimitTokens$Row" "bytes" "[I", Cond.fieldLink RX4 15 "LimitTokens$Sealer" "words" "[I", Cond.methodLink RX4 106 yX4_mixWords, Cond.instanceMethod yX4_mixWords, Cond.selects RX4 yX4_mixWords yX4_mixWords, Cond.code yX4_mixWords cX4_mixWords 12 none, Cond.fieldLink RX4 109 "LimitTokens$Sealer" "CUBE_ROOTS" "[I", Cond.methodLink RX4 85 yX3_makeEmpty, Cond.instanceMethod yX3_makeEmpty]
def wsX7_prove_r5 : List Cond := [Cond.selects RX3 yX3_makeEmpty yX3_makeEmpty, Cond.code yX3_makeEmpty cX3_makeEmpty 1 none, Cond.methodLink RX4 59 yX4_startWork, Cond.instanceMethod yX4_startWork, Cond.selects RX4 yX4_startWork yX4_startWork, Cond.code yX4_startWork cX4_startWork 3 none, Cond.methodLink RX4 77 yX3_byteAt, Cond.instanceMethod yX3_byteAt, Cond.selects RX3 yX3_byteAt yX3_byteAt, Cond.code yX3_byteAt cX3_byteAt 2 (some .int), Cond.methodLink RX4 62 yX3_pushAll, Cond.instanceMethod yX3_pushAll, Cond.selects RX3 yX3_pushAll yX3_pushAll, Cond.code yX3_pushAll cX3_pushAll 2 none, Cond.methodLink RX2 78 yX1_isOfOthers, Cond.instanceMethod yX1_isOfOthers, Cond.selects RX1 yX1_isOfOthers yX1_isOfOthers, Cond.initialized RX1, Cond.code yX1_isOfOthers cX1_isOfOthers 1 (some .boolean), Cond.fieldLink RX1 20 "LimitTokens$Limit" "lock" "LLimitTokens$Row;", Cond.fieldLink RX1 23 "LimitTokens$Row" "length" "I", Cond.methodLink RX2 84 yX2_passOthers, Cond.instanceMethod yX2_passOthers, Cond.selects RX2 yX2_passOthers yX2_passOthers]
def wsX7_prove_r6 : List Cond := [Cond.methodLink RX2 88 yX2_passOwn, Cond.instanceMethod yX2_passOwn, Cond.selects RX2 yX2_passOwn yX2_passOwn, Cond.code yX2_passOwn cX2_passOwn 6 (some .boolean), Cond.fieldLink RX2 27 "LimitTokens$Prover" "judge" "LLimitTokens$Judge;", Cond.fieldLink RX2 101 "LimitTokens$Limit" "text" "LLimitTokens$Row;", Cond.methodLink RX2 104 yX0_judgeText, Cond.instanceMethod yX0_judgeText, Cond.selects RX0 yX0_judgeText yX0_judgeText, Cond.initialized RX0, Cond.code yX0_judgeText cX0_judgeText 7 (some .int), Cond.fieldLink RX0 15 "LimitTokens$Judge" "position" "I", Cond.fieldLink RX0 19 "LimitTokens$Row" "length" "I", Cond.methodLink RX0 24 yX0_judgeTest, Cond.instanceMethod yX0_judgeTest, Cond.selects RX0 yX0_judgeTest yX0_judgeTest, Cond.code yX0_judgeTest cX0_judgeTest 6 (some .int), Cond.fieldLink RX0 9 "LimitTokens$Judge" "request" "[I", Cond.methodLink RX0 28 yX3_byteAt, Cond.methodLink RX0 32 yX0_takeNumber, Cond.instanceMethod yX0_takeNumber, Cond.selects RX0 yX0_takeNumber yX0_takeNumber, Cond.code yX0_takeNumber cX0_takeNumber 5 (some .int), Cond.methodLink RX0 43 Lib.Math.max.name]
def wsX7_prove_r7 : List Cond := [Cond.static Lib.Math.max.name, Cond.initialized "java/lang/Math", Cond.code Lib.Math.max.name Lib.Math.max.code 2 (some .int), Cond.methodLink RX0 35 yX0_isKind, Cond.static yX0_isKind, Cond.code yX0_isKind cX0_isKind 1 (some .boolean), Cond.methodLink RX0 39 yX0_holds, Cond.static yX0_holds, Cond.code yX0_holds cX0_holds 3 (some .boolean), Cond.methodLink RX2 98 yX2_stopAt, Cond.instanceMethod yX2_stopAt, Cond.selects RX2 yX2_stopAt yX2_stopAt, Cond.code yX2_stopAt cX2_stopAt 4 (some .boolean), Cond.methodLink RX2 108 yX4_goOnOwn, Cond.instanceMethod yX4_goOnOwn, Cond.selects RX4 yX4_goOnOwn yX4_goOnOwn, Cond.code yX4_goOnOwn cX4_goOnOwn 3 none, Cond.fieldLink RX4 65 "LimitTokens$Limit" "text" "LLimitTokens$Row;", Cond.methodLink RX4 70 yX4_sealInto, Cond.code yX2_passOthers cX2_passOthers 7 (some .boolean), Cond.fieldLink RX2 37 "LimitTokens$Prover" "keys" "[LLimitTokens$Row;", Cond.fieldLink RX2 115 "LimitTokens$Limit" "lock" "LLimitTokens$Row;", Cond.fieldLink RX2 91 "LimitTokens$Token" "sign" "LLimitTokens$Row;", Cond.methodLink RX2 112 yX2_helperNamed]
def wsX7_prove_r8 : List Cond := [Cond.instanceMethod yX2_helperNamed, Cond.selects RX2 yX2_helperNamed yX2_helperNamed, Cond.code yX2_helperNamed cX2_helperNamed 3 (some .int), Cond.methodLink RX2 94 yX3_isSameAs, Cond.instanceMethod yX3_isSameAs, Cond.selects RX3 yX3_isSameAs yX3_isSameAs, Cond.code yX3_isSameAs cX3_isSameAs 3 (some .boolean), Cond.methodLink RX2 118 yX4_turnKey, Cond.instanceMethod yX4_turnKey, Cond.selects RX4 yX4_turnKey yX4_turnKey, Cond.code yX4_turnKey cX4_turnKey 6 none, Cond.fieldLink RX4 36 "LimitTokens$Sealer" "textSeal" "LLimitTokens$Row;", Cond.methodLink RX4 81 yX3_flip, Cond.instanceMethod yX3_flip, Cond.selects RX3 yX3_flip yX3_flip, Cond.code yX3_flip cX3_flip 3 (some .int), Cond.methodLink RX3 35 yX3_has, Cond.instanceMethod yX3_has, Cond.selects RX3 yX3_has yX3_has, Cond.code yX3_has cX3_has 2 (some .boolean), Cond.methodLink RX2 122 yX2_walk, Cond.methodLink RX2 126 yX4_bindSign, Cond.instanceMethod yX4_bindSign, Cond.selects RX4 yX4_bindSign yX4_bindSign]
def wsX7_prove_r9 : List Cond := [Cond.code yX4_bindSign cX4_bindSign 3 none, Cond.fieldLink RX4 33 "LimitTokens$Sealer" "pair" "LLimitTokens$Row;", Cond.fieldLink RX4 42 "LimitTokens$Sealer" "zeroKey" "LLimitTokens$Row;", Cond.methodLink RX2 130 yX4_goOnOthers, Cond.instanceMethod yX4_goOnOthers, Cond.selects RX4 yX4_goOnOthers yX4_goOnOthers, Cond.code yX4_goOnOthers cX4_goOnOthers 3 none, Cond.fieldLink RX4 39 "LimitTokens$Sealer" "lockSeal" "LLimitTokens$Row;", Cond.fieldLink RX4 74 "LimitTokens$Limit" "lock" "LLimitTokens$Row;", Cond.methodLink RX7 188 yX2_compareSign, Cond.instanceMethod yX2_compareSign, Cond.selects RX2 yX2_compareSign yX2_compareSign, Cond.code yX2_compareSign cX2_compareSign 1 none]
def wsX7_prove : List Cond := .code yX7_prove cX7_prove 4 (some .int) :: ((wsX7_prove_r1 ++ (wsX7_prove_r2 ++ (wsX7_prove_r3 ++ (wsX7_prove_r4 ++ (wsX7_prove_r5 ++ (wsX7_prove_r6 ++ (wsX7_prove_r7 ++ (wsX7_prove_r8 ++ wsX7_prove_r9)))))))) ++ wsX70 ++ wsX20 ++ wsX60 ++ wsX10 ++ wsX30 ++ wsX40 ++ wsX00)
def wsX7_fault : List Cond := .code yX7_fault cX7_fault 2 (some .int) :: ([.fieldLink RX7 18 "LimitTokens" "prover" "LLimitTokens$Prover;", .fieldLink RX7 194 "LimitTokens$Prover" "foundToken" "I", .fieldLink RX7 197 "LimitTokens$Prover" "foundLimit" "I", .fieldLink RX7 200 "LimitTokens$Prover" "begun" "I"] ++ wsX70 ++ wsX20)
def wsX7_write_r1 : List Cond := [Cond.fieldLink RX7 62 "LimitTokens" "tape" "LLimitTokens$Row;", Cond.fieldLink RX7 40 "LimitTokens" "tokens" "[LLimitTokens$Token;", Cond.fieldLink RX7 79 "LimitTokens$Row" "length" "I", Cond.methodLink RX7 123 yX7_isThere, Cond.instanceMethod yX7_isThere, Cond.selects RX7 yX7_isThere yX7_isThere, Cond.initialized RX7, Cond.code yX7_isThere cX7_isThere 2 (some .boolean), Cond.fieldLink RX7 106 "LimitTokens$Token" "there" "Z", Cond.methodLink RX7 100 yX7_isTokenNumber, Cond.static yX7_isTokenNumber, Cond.code yX7_isTokenNumber cX7_isTokenNumber 1 (some .boolean), Cond.methodLink RX7 83 yX3_makeEmpty, Cond.instanceMethod yX3_makeEmpty, Cond.selects RX3 yX3_makeEmpty yX3_makeEmpty, Cond.initialized RX3, Cond.code yX3_makeEmpty cX3_makeEmpty 1 none, Cond.fieldLink RX3 21 "LimitTokens$Row" "length" "I", Cond.methodLink RX7 203 yX6_putOn, Cond.instanceMethod yX6_putOn, Cond.selects RX6 yX6_putOn yX6_putOn, Cond.initialized RX6, Cond.code yX6_putOn cX6_putOn 3 none, Cond.fieldLink RX6 14 "LimitTokens$Token" "name" "LLimitTokens$Row;"]
def wsX7_write_r2 : List Cond := [Cond.fieldLink RX6 37 "LimitTokens$Row" "length" "I", Cond.fieldLink RX6 30 "LimitTokens$Token" "count" "I", Cond.fieldLink RX6 25 "LimitTokens$Token" "limits" "[LLimitTokens$Limit;", Cond.fieldLink RX6 20 "LimitTokens$Token" "sign" "LLimitTokens$Row;", Cond.methodLink RX6 55 yX3_push, Cond.instanceMethod yX3_push, Cond.selects RX3 yX3_push yX3_push, Cond.code yX3_push cX3_push 2 none, Cond.fieldLink RX3 15 "LimitTokens$Row" "bytes" "[I", Cond.methodLink RX6 58 yX3_pushAll, Cond.instanceMethod yX3_pushAll, Cond.selects RX3 yX3_pushAll yX3_pushAll, Cond.code yX3_pushAll cX3_pushAll 2 none, Cond.methodLink RX3 25 yX3_pushPart, Cond.instanceMethod yX3_pushPart, Cond.selects RX3 yX3_pushPart yX3_pushPart, Cond.code yX3_pushPart cX3_pushPart 4 none, Cond.methodLink RX3 29 arraycopyName, Cond.native arraycopyName, Cond.static arraycopyName, Cond.initialized "java/lang/System", Cond.methodLink RX6 61 yX1_putOn, Cond.instanceMethod yX1_putOn, Cond.selects RX1 yX1_putOn yX1_putOn]
def wsX7_write_r3 : List Cond := [Cond.initialized RX1, Cond.code yX1_putOn cX1_putOn 2 none, Cond.fieldLink RX1 14 "LimitTokens$Limit" "text" "LLimitTokens$Row;", Cond.fieldLink RX1 23 "LimitTokens$Row" "length" "I", Cond.fieldLink RX1 20 "LimitTokens$Limit" "lock" "LLimitTokens$Row;", Cond.methodLink RX1 31 yX3_push, Cond.methodLink RX1 34 yX3_pushAll, Cond.methodLink RX1 37 yX1_isOfOthers, Cond.instanceMethod yX1_isOfOthers, Cond.selects RX1 yX1_isOfOthers yX1_isOfOthers, Cond.code yX1_isOfOthers cX1_isOfOthers 1 (some .boolean)]
def wsX7_write : List Cond := .code yX7_write cX7_write 2 (some .int) :: ((wsX7_write_r1 ++ (wsX7_write_r2 ++ wsX7_write_r3)) ++ wsX70 ++ wsX30 ++ wsX60 ++ wsX10)
def wsX7_type : List Cond := .code yX7_type cX7_type 4 (some .int) :: ([.fieldLink RX7 62 "LimitTokens" "tape" "LLimitTokens$Row;", .methodLink RX7 72 yX7_isWidth, .static yX7_isWidth, .initialized RX7, .code yX7_isWidth cX7_isWidth 1 (some .boolean), .methodLink RX7 75 yX7_pushLowest, .static yX7_pushLowest, .code yX7_pushLowest cX7_pushLowest 5 (some .int), .fieldLink RX7 79 "LimitTokens$Row" "length" "I", .methodLink RX7 214 yX3_hasRoomFor, .instanceMethod yX3_hasRoomFor, .selects RX3 yX3_hasRoomFor yX3_hasRoomFor, .initialized RX3, .code yX3_hasRoomFor cX3_hasRoomFor 2 (some .boolean), .fieldLink RX3 15 "LimitTokens$Row" "bytes" "[I", .fieldLink RX3 21 "LimitTokens$Row" "length" "I", .methodLink RX7 217 yX3_push, .instanceMethod yX3_push, .selects RX3 yX3_push yX3_push, .code yX3_push cX3_push 2 none] ++ wsX70 ++ wsX30)
def wsX7_tape : List Cond := .code yX7_tape cX7_tape 2 (some .int) :: ([.fieldLink RX7 62 "LimitTokens" "tape" "LLimitTokens$Row;", .methodLink RX7 86 yX3_byteAt, .instanceMethod yX3_byteAt, .selects RX3 yX3_byteAt yX3_byteAt, .initialized RX3, .code yX3_byteAt cX3_byteAt 2 (some .int), .fieldLink RX3 21 "LimitTokens$Row" "length" "I", .fieldLink RX3 15 "LimitTokens$Row" "bytes" "[I"] ++ wsX70 ++ wsX30)
def wsX7_cut : List Cond := .code yX7_cut cX7_cut 3 (some .int) :: ([.fieldLink RX7 62 "LimitTokens" "tape" "LLimitTokens$Row;", .fieldLink RX7 79 "LimitTokens$Row" "length" "I"] ++ wsX70 ++ wsX30)
def wsX7_forge : List Cond := .code yX7_forge cX7_forge 3 (some .int) :: ([.fieldLink RX7 62 "LimitTokens" "tape" "LLimitTokens$Row;", .methodLink RX7 162 yX3_has, .instanceMethod yX3_has, .selects RX3 yX3_has yX3_has, .initialized RX3, .code yX3_has cX3_has 2 (some .boolean), .fieldLink RX3 21 "LimitTokens$Row" "length" "I", .methodLink RX7 165 yX7_isByte, .static yX7_isByte, .initialized RX7, .code yX7_isByte cX7_isByte 1 (some .boolean), .methodLink RX7 168 yX3_flip, .instanceMethod yX3_flip, .selects RX3 yX3_flip yX3_flip, .code yX3_flip cX3_flip 3 (some .int), .fieldLink RX3 15 "LimitTokens$Row" "bytes" "[I", .methodLink RX3 35 yX3_has] ++ wsX70 ++ wsX30)
def wsX7_read_r1 : List Cond := [Cond.fieldLink RX7 25 "LimitTokens" "reader" "LLimitTokens$TapeReader;", Cond.fieldLink RX7 32 "LimitTokens" "spare" "LLimitTokens$Token;", Cond.fieldLink RX7 210 "LimitTokens$TapeReader" "found" "I", Cond.fieldLink RX7 40 "LimitTokens" "tokens" "[LLimitTokens$Token;", Cond.fieldLink RX7 110 "LimitTokens$Token" "count" "I", Cond.methodLink RX7 100 yX7_isTokenNumber, Cond.static yX7_isTokenNumber, Cond.initialized RX7, Cond.code yX7_isTokenNumber cX7_isTokenNumber 1 (some .boolean), Cond.methodLink RX7 206 yX5_readToken, Cond.instanceMethod yX5_readToken, Cond.selects RX5 yX5_readToken yX5_readToken, Cond.initialized RX5, Cond.code yX5_readToken cX5_readToken 2 (some .boolean), Cond.fieldLink RX5 24 "LimitTokens$TapeReader" "position" "I", Cond.fieldLink RX5 27 "LimitTokens$TapeReader" "found" "I", Cond.fieldLink RX5 20 "LimitTokens$TapeReader" "foundPlace" "I", Cond.fieldLink RX5 30 "LimitTokens$Token" "there" "Z", Cond.fieldLink RX5 36 "LimitTokens$Token" "count" "I", Cond.fieldLink RX5 43 "LimitTokens$Token" "name" "LLimitTokens$Row;", Cond.fieldLink RX5 54 "LimitTokens$Token" "sign" "LLimitTokens$Row;", Cond.fieldLink RX5 14 "LimitTokens$TapeReader" "source" "LLimitTokens$Row;", Cond.fieldLink RX5 57 "LimitTokens$Row" "length" "I", Cond.methodLink RX5 39 yX5_takeMark]
def wsX7_read_r2 : List Cond := [Cond.instanceMethod yX5_takeMark, Cond.selects RX5 yX5_takeMark yX5_takeMark, Cond.code yX5_takeMark cX5_takeMark 2 (some .boolean), Cond.methodLink RX5 86 yX3_has, Cond.instanceMethod yX3_has, Cond.selects RX3 yX3_has yX3_has, Cond.initialized RX3, Cond.code yX3_has cX3_has 2 (some .boolean), Cond.fieldLink RX3 21 "LimitTokens$Row" "length" "I", Cond.methodLink RX5 60 yX5_stopAt, Cond.instanceMethod yX5_stopAt, Cond.selects RX5 yX5_stopAt yX5_stopAt, Cond.code yX5_stopAt cX5_stopAt 2 (some .boolean), Cond.methodLink RX5 63 yX3_byteAt, Cond.instanceMethod yX3_byteAt, Cond.selects RX3 yX3_byteAt yX3_byteAt, Cond.code yX3_byteAt cX3_byteAt 2 (some .int), Cond.fieldLink RX3 15 "LimitTokens$Row" "bytes" "[I", Cond.methodLink RX5 46 yX5_takeBytes, Cond.instanceMethod yX5_takeBytes, Cond.selects RX5 yX5_takeBytes yX5_takeBytes, Cond.code yX5_takeBytes cX5_takeBytes 5 (some .boolean), Cond.methodLink RX5 83 yX3_makeEmpty, Cond.instanceMethod yX3_makeEmpty]
def wsX7_read_r3 : List Cond := [Cond.selects RX3 yX3_makeEmpty yX3_makeEmpty, Cond.code yX3_makeEmpty cX3_makeEmpty 1 none, Cond.methodLink RX5 89 yX3_pushPart, Cond.instanceMethod yX3_pushPart, Cond.selects RX3 yX3_pushPart yX3_pushPart, Cond.code yX3_pushPart cX3_pushPart 4 none, Cond.methodLink RX3 29 arraycopyName, Cond.native arraycopyName, Cond.static arraycopyName, Cond.initialized "java/lang/System", Cond.methodLink RX5 50 yX5_takeLimits, Cond.instanceMethod yX5_takeLimits, Cond.selects RX5 yX5_takeLimits yX5_takeLimits, Cond.code yX5_takeLimits cX5_takeLimits 3 (some .boolean), Cond.fieldLink RX5 67 "LimitTokens$Token" "limits" "[LLimitTokens$Limit;", Cond.methodLink RX5 71 yX5_takeLimit, Cond.instanceMethod yX5_takeLimit, Cond.selects RX5 yX5_takeLimit yX5_takeLimit, Cond.code yX5_takeLimit cX5_takeLimit 2 (some .boolean), Cond.fieldLink RX5 75 "LimitTokens$Limit" "text" "LLimitTokens$Row;", Cond.fieldLink RX5 80 "LimitTokens$Limit" "lock" "LLimitTokens$Row;", Cond.methodLink RX7 156 yX6_takeOver, Cond.instanceMethod yX6_takeOver, Cond.selects RX6 yX6_takeOver yX6_takeOver]
def wsX7_read_r4 : List Cond := [Cond.initialized RX6, Cond.code yX6_takeOver cX6_takeOver 3 none, Cond.fieldLink RX6 14 "LimitTokens$Token" "name" "LLimitTokens$Row;", Cond.fieldLink RX6 20 "LimitTokens$Token" "sign" "LLimitTokens$Row;", Cond.fieldLink RX6 30 "LimitTokens$Token" "count" "I", Cond.fieldLink RX6 25 "LimitTokens$Token" "limits" "[LLimitTokens$Limit;", Cond.fieldLink RX6 51 "LimitTokens$Token" "there" "Z", Cond.methodLink RX6 44 yX3_takeOver, Cond.instanceMethod yX3_takeOver, Cond.selects RX3 yX3_takeOver yX3_takeOver, Cond.code yX3_takeOver cX3_takeOver 2 none, Cond.methodLink RX3 25 yX3_pushPart, Cond.methodLink RX6 48 yX1_takeOver, Cond.instanceMethod yX1_takeOver, Cond.selects RX1 yX1_takeOver yX1_takeOver, Cond.initialized RX1, Cond.code yX1_takeOver cX1_takeOver 2 none, Cond.fieldLink RX1 14 "LimitTokens$Limit" "text" "LLimitTokens$Row;", Cond.fieldLink RX1 20 "LimitTokens$Limit" "lock" "LLimitTokens$Row;", Cond.methodLink RX1 27 yX3_takeOver]
def wsX7_read : List Cond := .code yX7_read cX7_read 2 (some .int) :: ((wsX7_read_r1 ++ (wsX7_read_r2 ++ (wsX7_read_r3 ++ wsX7_read_r4))) ++ wsX70 ++ wsX50 ++ wsX60 ++ wsX30 ++ wsX10)
def wsX7_place : List Cond := .code yX7_place cX7_place 1 (some .int) :: ([.fieldLink RX7 25 "LimitTokens" "reader" "LLimitTokens$TapeReader;", .fieldLink RX7 211 "LimitTokens$TapeReader" "foundPlace" "I"] ++ wsX70 ++ wsX50)
def wsX8_isUnder : List Cond := .code yX8_isUnder cX8_isUnder 36 (some .boolean) :: ([.constantLong RX8 119 (4294967295), .constantLong RX8 121 (2)])
def wsX8_root : List Cond := .code yX8_root cX8_root 7 (some .int) :: ([.constantLong RX8 119 (4294967295), .methodLink RX8 115 yX8_isUnder, .static yX8_isUnder, .initialized RX8, .code yX8_isUnder cX8_isUnder 36 (some .boolean), .constantLong RX8 121 (2)])
def wsX8_init_r1 : List Cond := [Cond.methodLink RX8 1 objectInit, Cond.instanceMethod objectInit, Cond.code objectInit ⟨#[0xb1]⟩ 1 none, Cond.arrayClass .int, Cond.fieldLink RX8 7 "LimitTokensModel" "starts" "[I", Cond.fieldLink RX8 13 "LimitTokensModel" "adds" "[I", Cond.fieldLink RX8 16 "LimitTokensModel" "h" "[I", Cond.fieldLink RX8 19 "LimitTokensModel" "w" "[I", Cond.fieldLink RX8 22 "LimitTokensModel" "v" "[I", Cond.fieldLink RX8 25 "LimitTokensModel" "in" "[I", Cond.fieldLink RX8 28 "LimitTokensModel" "hashed" "[I", Cond.fieldLink RX8 31 "LimitTokensModel" "key" "[I", Cond.fieldLink RX8 34 "LimitTokensModel" "message" "[I", Cond.fieldLink RX8 37 "LimitTokensModel" "out" "[I", Cond.fieldLink RX8 40 "LimitTokensModel" "kept" "[I", Cond.fieldLink RX8 43 "LimitTokensModel" "zeros" "[I", Cond.fieldLink RX8 46 "LimitTokensModel" "register" "[I", Cond.fieldLink RX8 49 "LimitTokensModel" "registerSize" "[I", Cond.fieldLink RX8 52 "LimitTokensModel" "tape" "[I", Cond.fieldLink RX8 55 "LimitTokensModel" "place" "I", Cond.arrayClass .boolean, Cond.fieldLink RX8 59 "LimitTokensModel" "there" "[Z", Cond.fieldLink RX8 63 "LimitTokensModel" "nameSize" "[I", Cond.fieldLink RX8 66 "LimitTokensModel" "name" "[I"]
def wsX8_init_r2 : List Cond := [Cond.fieldLink RX8 69 "LimitTokensModel" "limits" "[I", Cond.fieldLink RX8 72 "LimitTokensModel" "textSize" "[I", Cond.fieldLink RX8 75 "LimitTokensModel" "text" "[I", Cond.fieldLink RX8 78 "LimitTokensModel" "isOthers" "[Z", Cond.fieldLink RX8 81 "LimitTokensModel" "lock" "[I", Cond.fieldLink RX8 84 "LimitTokensModel" "sign" "[I", Cond.fieldLink RX8 87 "LimitTokensModel" "asked" "[I", Cond.fieldLink RX8 90 "LimitTokensModel" "walker" "[I", Cond.fieldLink RX8 93 "LimitTokensModel" "step" "[I", Cond.fieldLink RX8 96 "LimitTokensModel" "pile" "[I", Cond.fieldLink RX8 99 "LimitTokensModel" "walked" "[Z", Cond.fieldLink RX8 102 "LimitTokensModel" "faultToken" "I", Cond.fieldLink RX8 105 "LimitTokensModel" "faultLimit" "I", Cond.methodLink RX8 108 yX8_root, Cond.static yX8_root, Cond.initialized RX8, Cond.code yX8_root cX8_root 7 (some .int), Cond.constantLong RX8 119 (4294967295), Cond.methodLink RX8 115 yX8_isUnder, Cond.static yX8_isUnder, Cond.code yX8_isUnder cX8_isUnder 36 (some .boolean), Cond.constantLong RX8 121 (2)]
def wsX8_init : List Cond := .code yX8_init cX8_init 5 none :: ((wsX8_init_r1 ++ wsX8_init_r2) ++ wsX80)
def wsX8_within : List Cond := .code yX8_within cX8_within 3 (some .boolean) :: ([])
def wsX8_turned : List Cond := .code yX8_turned cX8_turned 2 (some .int) :: ([])
def wsX8_mix : List Cond := .code yX8_mix cX8_mix 7 none :: ([.fieldLink RX8 19 "LimitTokensModel" "w" "[I", .fieldLink RX8 22 "LimitTokensModel" "v" "[I", .fieldLink RX8 16 "LimitTokensModel" "h" "[I", .fieldLink RX8 13 "LimitTokensModel" "adds" "[I", .methodLink RX8 123 yX8_turned, .static yX8_turned, .initialized RX8, .code yX8_turned cX8_turned 2 (some .int)] ++ wsX80)
def wsX8_hashNow : List Cond := .code yX8_hashNow cX8_hashNow 5 none :: ([.fieldLink RX8 126 "LimitTokensModel" "inSize" "I", .fieldLink RX8 25 "LimitTokensModel" "in" "[I", .fieldLink RX8 16 "LimitTokensModel" "h" "[I", .fieldLink RX8 7 "LimitTokensModel" "starts" "[I", .fieldLink RX8 19 "LimitTokensModel" "w" "[I", .fieldLink RX8 28 "LimitTokensModel" "hashed" "[I", .methodLink RX8 129 yX8_mix, .instanceMethod yX8_mix, .selects RX8 yX8_mix yX8_mix, .initialized RX8, .code yX8_mix cX8_mix 7 none, .fieldLink RX8 22 "LimitTokensModel" "v" "[I", .fieldLink RX8 13 "LimitTokensModel" "adds" "[I", .methodLink RX8 123 yX8_turned, .static yX8_turned, .code yX8_turned cX8_turned 2 (some .int)] ++ wsX80)
def wsX8_take : List Cond := .code yX8_take cX8_take 5 none :: ([.fieldLink RX8 25 "LimitTokensModel" "in" "[I", .fieldLink RX8 126 "LimitTokensModel" "inSize" "I"] ++ wsX80)
def wsX8_keyIs : List Cond := .code yX8_keyIs cX8_keyIs 5 none :: ([.fieldLink RX8 31 "LimitTokensModel" "key" "[I", .fieldLink RX8 132 "LimitTokensModel" "keySize" "I", .fieldLink RX8 135 "LimitTokensModel" "messageSize" "I"] ++ wsX80)
def wsX8_add : List Cond := .code yX8_add cX8_add 5 none :: ([.fieldLink RX8 34 "LimitTokensModel" "message" "[I", .fieldLink RX8 135 "LimitTokensModel" "messageSize" "I"] ++ wsX80)
def wsX8_keyed : List Cond := .code yX8_keyed cX8_keyed 3 none :: ([.fieldLink RX8 126 "LimitTokensModel" "inSize" "I", .fieldLink RX8 25 "LimitTokensModel" "in" "[I", .fieldLink RX8 132 "LimitTokensModel" "keySize" "I", .fieldLink RX8 31 "LimitTokensModel" "key" "[I"] ++ wsX80)
def wsX8_copyTo : List Cond := .code yX8_copyTo cX8_copyTo 4 none :: ([])
def wsX8_sealNow_r1 : List Cond := [Cond.fieldLink RX8 132 "LimitTokensModel" "keySize" "I", Cond.fieldLink RX8 126 "LimitTokensModel" "inSize" "I", Cond.fieldLink RX8 31 "LimitTokensModel" "key" "[I", Cond.fieldLink RX8 28 "LimitTokensModel" "hashed" "[I", Cond.fieldLink RX8 34 "LimitTokensModel" "message" "[I", Cond.fieldLink RX8 135 "LimitTokensModel" "messageSize" "I", Cond.fieldLink RX8 37 "LimitTokensModel" "out" "[I", Cond.methodLink RX8 138 yX8_take, Cond.instanceMethod yX8_take, Cond.selects RX8 yX8_take yX8_take, Cond.initialized RX8, Cond.code yX8_take cX8_take 5 none, Cond.fieldLink RX8 25 "LimitTokensModel" "in" "[I", Cond.methodLink RX8 142 yX8_hashNow, Cond.instanceMethod yX8_hashNow, Cond.selects RX8 yX8_hashNow yX8_hashNow, Cond.code yX8_hashNow cX8_hashNow 5 none, Cond.fieldLink RX8 16 "LimitTokensModel" "h" "[I", Cond.fieldLink RX8 7 "LimitTokensModel" "starts" "[I", Cond.fieldLink RX8 19 "LimitTokensModel" "w" "[I", Cond.methodLink RX8 129 yX8_mix, Cond.instanceMethod yX8_mix, Cond.selects RX8 yX8_mix yX8_mix, Cond.code yX8_mix cX8_mix 7 none]
def wsX8_sealNow_r2 : List Cond := [Cond.fieldLink RX8 22 "LimitTokensModel" "v" "[I", Cond.fieldLink RX8 13 "LimitTokensModel" "adds" "[I", Cond.methodLink RX8 123 yX8_turned, Cond.static yX8_turned, Cond.code yX8_turned cX8_turned 2 (some .int), Cond.methodLink RX8 145 yX8_keyed, Cond.instanceMethod yX8_keyed, Cond.selects RX8 yX8_keyed yX8_keyed, Cond.code yX8_keyed cX8_keyed 3 none, Cond.methodLink RX8 149 yX8_copyTo, Cond.static yX8_copyTo, Cond.code yX8_copyTo cX8_copyTo 4 none]
def wsX8_sealNow : List Cond := .code yX8_sealNow cX8_sealNow 2 none :: ((wsX8_sealNow_r1 ++ wsX8_sealNow_r2) ++ wsX80)
def wsX8_is : List Cond := .code yX8_is cX8_is 1 (some .boolean) :: ([.methodLink RX8 153 yX8_within, .static yX8_within, .initialized RX8, .code yX8_within cX8_within 3 (some .boolean)])
def wsX8_add_ : List Cond := .code yX8_add_ cX8_add_ 6 (some .int) :: ([.fieldLink RX8 112 "LimitTokensModel" "thrown" "I", .fieldLink RX8 49 "LimitTokensModel" "registerSize" "[I", .fieldLink RX8 46 "LimitTokensModel" "register" "[I", .constantLong RX8 161 (255), .methodLink RX8 157 yX8_is, .static yX8_is, .initialized RX8, .code yX8_is cX8_is 1 (some .boolean), .methodLink RX8 153 yX8_within, .static yX8_within, .code yX8_within cX8_within 3 (some .boolean)] ++ wsX80)
def wsX8_clear : List Cond := .code yX8_clear cX8_clear 3 (some .int) :: ([.fieldLink RX8 112 "LimitTokensModel" "thrown" "I", .fieldLink RX8 49 "LimitTokensModel" "registerSize" "[I", .methodLink RX8 157 yX8_is, .static yX8_is, .initialized RX8, .code yX8_is cX8_is 1 (some .boolean), .methodLink RX8 153 yX8_within, .static yX8_within, .code yX8_within cX8_within 3 (some .boolean)] ++ wsX80)
def wsX8_at : List Cond := .code yX8_at cX8_at 3 (some .int) :: ([.fieldLink RX8 112 "LimitTokensModel" "thrown" "I", .fieldLink RX8 49 "LimitTokensModel" "registerSize" "[I", .fieldLink RX8 46 "LimitTokensModel" "register" "[I", .methodLink RX8 157 yX8_is, .static yX8_is, .initialized RX8, .code yX8_is cX8_is 1 (some .boolean), .methodLink RX8 153 yX8_within, .static yX8_within, .code yX8_within cX8_within 3 (some .boolean)] ++ wsX80)
def wsX8_hash_r1 : List Cond := [Cond.fieldLink RX8 112 "LimitTokensModel" "thrown" "I", Cond.fieldLink RX8 126 "LimitTokensModel" "inSize" "I", Cond.fieldLink RX8 46 "LimitTokensModel" "register" "[I", Cond.fieldLink RX8 49 "LimitTokensModel" "registerSize" "[I", Cond.fieldLink RX8 28 "LimitTokensModel" "hashed" "[I", Cond.methodLink RX8 157 yX8_is, Cond.static yX8_is, Cond.initialized RX8, Cond.code yX8_is cX8_is 1 (some .boolean), Cond.methodLink RX8 153 yX8_within, Cond.static yX8_within, Cond.code yX8_within cX8_within 3 (some .boolean), Cond.methodLink RX8 138 yX8_take, Cond.instanceMethod yX8_take, Cond.selects RX8 yX8_take yX8_take, Cond.code yX8_take cX8_take 5 none, Cond.fieldLink RX8 25 "LimitTokensModel" "in" "[I", Cond.methodLink RX8 142 yX8_hashNow, Cond.instanceMethod yX8_hashNow, Cond.selects RX8 yX8_hashNow yX8_hashNow, Cond.code yX8_hashNow cX8_hashNow 5 none, Cond.fieldLink RX8 16 "LimitTokensModel" "h" "[I", Cond.fieldLink RX8 7 "LimitTokensModel" "starts" "[I", Cond.fieldLink RX8 19 "LimitTokensModel" "w" "[I"]
def wsX8_hash_r2 : List Cond := [Cond.methodLink RX8 129 yX8_mix, Cond.instanceMethod yX8_mix, Cond.selects RX8 yX8_mix yX8_mix, Cond.code yX8_mix cX8_mix 7 none, Cond.fieldLink RX8 22 "LimitTokensModel" "v" "[I", Cond.fieldLink RX8 13 "LimitTokensModel" "adds" "[I", Cond.methodLink RX8 123 yX8_turned, Cond.static yX8_turned, Cond.code yX8_turned cX8_turned 2 (some .int), Cond.methodLink RX8 149 yX8_copyTo, Cond.static yX8_copyTo, Cond.code yX8_copyTo cX8_copyTo 4 none]
def wsX8_hash : List Cond := .code yX8_hash cX8_hash 3 (some .int) :: ((wsX8_hash_r1 ++ wsX8_hash_r2) ++ wsX80)
def wsX8_seal_r1 : List Cond := [Cond.fieldLink RX8 112 "LimitTokensModel" "thrown" "I", Cond.fieldLink RX8 46 "LimitTokensModel" "register" "[I", Cond.fieldLink RX8 49 "LimitTokensModel" "registerSize" "[I", Cond.fieldLink RX8 37 "LimitTokensModel" "out" "[I", Cond.methodLink RX8 157 yX8_is, Cond.static yX8_is, Cond.initialized RX8, Cond.code yX8_is cX8_is 1 (some .boolean), Cond.methodLink RX8 153 yX8_within, Cond.static yX8_within, Cond.code yX8_within cX8_within 3 (some .boolean), Cond.methodLink RX8 163 yX8_keyIs, Cond.instanceMethod yX8_keyIs, Cond.selects RX8 yX8_keyIs yX8_keyIs, Cond.code yX8_keyIs cX8_keyIs 5 none, Cond.fieldLink RX8 31 "LimitTokensModel" "key" "[I", Cond.fieldLink RX8 132 "LimitTokensModel" "keySize" "I", Cond.fieldLink RX8 135 "LimitTokensModel" "messageSize" "I", Cond.methodLink RX8 166 yX8_add, Cond.instanceMethod yX8_add, Cond.selects RX8 yX8_add yX8_add, Cond.code yX8_add cX8_add 5 none, Cond.fieldLink RX8 34 "LimitTokensModel" "message" "[I", Cond.methodLink RX8 169 yX8_sealNow]
def wsX8_seal_r2 : List Cond := [Cond.instanceMethod yX8_sealNow, Cond.selects RX8 yX8_sealNow yX8_sealNow, Cond.code yX8_sealNow cX8_sealNow 2 none, Cond.fieldLink RX8 126 "LimitTokensModel" "inSize" "I", Cond.fieldLink RX8 28 "LimitTokensModel" "hashed" "[I", Cond.methodLink RX8 138 yX8_take, Cond.instanceMethod yX8_take, Cond.selects RX8 yX8_take yX8_take, Cond.code yX8_take cX8_take 5 none, Cond.fieldLink RX8 25 "LimitTokensModel" "in" "[I", Cond.methodLink RX8 142 yX8_hashNow, Cond.instanceMethod yX8_hashNow, Cond.selects RX8 yX8_hashNow yX8_hashNow, Cond.code yX8_hashNow cX8_hashNow 5 none, Cond.fieldLink RX8 16 "LimitTokensModel" "h" "[I", Cond.fieldLink RX8 7 "LimitTokensModel" "starts" "[I", Cond.fieldLink RX8 19 "LimitTokensModel" "w" "[I", Cond.methodLink RX8 129 yX8_mix, Cond.instanceMethod yX8_mix, Cond.selects RX8 yX8_mix yX8_mix, Cond.code yX8_mix cX8_mix 7 none, Cond.fieldLink RX8 22 "LimitTokensModel" "v" "[I", Cond.fieldLink RX8 13 "LimitTokensModel" "adds" "[I", Cond.methodLink RX8 123 yX8_turned]
def wsX8_seal_r3 : List Cond := [Cond.static yX8_turned, Cond.code yX8_turned cX8_turned 2 (some .int), Cond.methodLink RX8 145 yX8_keyed, Cond.instanceMethod yX8_keyed, Cond.selects RX8 yX8_keyed yX8_keyed, Cond.code yX8_keyed cX8_keyed 3 none, Cond.methodLink RX8 149 yX8_copyTo, Cond.static yX8_copyTo, Cond.code yX8_copyTo cX8_copyTo 4 none]
def wsX8_seal : List Cond := .code yX8_seal cX8_seal 4 (some .int) :: ((wsX8_seal_r1 ++ (wsX8_seal_r2 ++ wsX8_seal_r3)) ++ wsX80)
def wsX8_isToken : List Cond := .code yX8_isToken cX8_isToken 2 (some .boolean) :: ([.fieldLink RX8 59 "LimitTokensModel" "there" "[Z", .methodLink RX8 157 yX8_is, .static yX8_is, .initialized RX8, .code yX8_is cX8_is 1 (some .boolean), .methodLink RX8 153 yX8_within, .static yX8_within, .code yX8_within cX8_within 3 (some .boolean)] ++ wsX80)
def wsX8_isText : List Cond := .code yX8_isText cX8_isText 2 (some .boolean) :: ([.fieldLink RX8 49 "LimitTokensModel" "registerSize" "[I", .methodLink RX8 153 yX8_within, .static yX8_within, .initialized RX8, .code yX8_within cX8_within 3 (some .boolean)] ++ wsX80)
def wsX8_make_r1 : List Cond := [Cond.fieldLink RX8 112 "LimitTokensModel" "thrown" "I", Cond.fieldLink RX8 46 "LimitTokensModel" "register" "[I", Cond.fieldLink RX8 49 "LimitTokensModel" "registerSize" "[I", Cond.fieldLink RX8 37 "LimitTokensModel" "out" "[I", Cond.fieldLink RX8 84 "LimitTokensModel" "sign" "[I", Cond.fieldLink RX8 59 "LimitTokensModel" "there" "[Z", Cond.fieldLink RX8 69 "LimitTokensModel" "limits" "[I", Cond.fieldLink RX8 63 "LimitTokensModel" "nameSize" "[I", Cond.fieldLink RX8 66 "LimitTokensModel" "name" "[I", Cond.methodLink RX8 157 yX8_is, Cond.static yX8_is, Cond.initialized RX8, Cond.code yX8_is cX8_is 1 (some .boolean), Cond.methodLink RX8 153 yX8_within, Cond.static yX8_within, Cond.code yX8_within cX8_within 3 (some .boolean), Cond.methodLink RX8 172 yX8_isText, Cond.instanceMethod yX8_isText, Cond.selects RX8 yX8_isText yX8_isText, Cond.code yX8_isText cX8_isText 2 (some .boolean), Cond.methodLink RX8 163 yX8_keyIs, Cond.instanceMethod yX8_keyIs, Cond.selects RX8 yX8_keyIs yX8_keyIs, Cond.code yX8_keyIs cX8_keyIs 5 none]
def wsX8_make_r2 : List Cond := [Cond.fieldLink RX8 31 "LimitTokensModel" "key" "[I", Cond.fieldLink RX8 132 "LimitTokensModel" "keySize" "I", Cond.fieldLink RX8 135 "LimitTokensModel" "messageSize" "I", Cond.methodLink RX8 166 yX8_add, Cond.instanceMethod yX8_add, Cond.selects RX8 yX8_add yX8_add, Cond.code yX8_add cX8_add 5 none, Cond.fieldLink RX8 34 "LimitTokensModel" "message" "[I", Cond.methodLink RX8 169 yX8_sealNow, Cond.instanceMethod yX8_sealNow, Cond.selects RX8 yX8_sealNow yX8_sealNow, Cond.code yX8_sealNow cX8_sealNow 2 none, Cond.fieldLink RX8 126 "LimitTokensModel" "inSize" "I", Cond.fieldLink RX8 28 "LimitTokensModel" "hashed" "[I", Cond.methodLink RX8 138 yX8_take, Cond.instanceMethod yX8_take, Cond.selects RX8 yX8_take yX8_take, Cond.code yX8_take cX8_take 5 none, Cond.fieldLink RX8 25 "LimitTokensModel" "in" "[I", Cond.methodLink RX8 142 yX8_hashNow, Cond.instanceMethod yX8_hashNow, Cond.selects RX8 yX8_hashNow yX8_hashNow, Cond.code yX8_hashNow cX8_hashNow 5 none, Cond.fieldLink RX8 16 "LimitTokensModel" "h" "[I"]
def wsX8_make_r3 : List Cond := [Cond.fieldLink RX8 7 "LimitTokensModel" "starts" "[I", Cond.fieldLink RX8 19 "LimitTokensModel" "w" "[I", Cond.methodLink RX8 129 yX8_mix, Cond.instanceMethod yX8_mix, Cond.selects RX8 yX8_mix yX8_mix, Cond.code yX8_mix cX8_mix 7 none, Cond.fieldLink RX8 22 "LimitTokensModel" "v" "[I", Cond.fieldLink RX8 13 "LimitTokensModel" "adds" "[I", Cond.methodLink RX8 123 yX8_turned, Cond.static yX8_turned, Cond.code yX8_turned cX8_turned 2 (some .int), Cond.methodLink RX8 145 yX8_keyed, Cond.instanceMethod yX8_keyed, Cond.selects RX8 yX8_keyed yX8_keyed, Cond.code yX8_keyed cX8_keyed 3 none, Cond.methodLink RX8 149 yX8_copyTo, Cond.static yX8_copyTo, Cond.code yX8_copyTo cX8_copyTo 4 none]
def wsX8_make : List Cond := .code yX8_make cX8_make 5 (some .int) :: ((wsX8_make_r1 ++ (wsX8_make_r2 ++ wsX8_make_r3)) ++ wsX80)
def wsX8_place : List Cond := .code yX8_place cX8_place 5 (some .int) :: ([.fieldLink RX8 69 "LimitTokensModel" "limits" "[I", .fieldLink RX8 72 "LimitTokensModel" "textSize" "[I", .fieldLink RX8 49 "LimitTokensModel" "registerSize" "[I", .fieldLink RX8 75 "LimitTokensModel" "text" "[I", .fieldLink RX8 46 "LimitTokensModel" "register" "[I"] ++ wsX80)
def wsX8_goOn_r1 : List Cond := [Cond.fieldLink RX8 78 "LimitTokensModel" "isOthers" "[Z", Cond.fieldLink RX8 75 "LimitTokensModel" "text" "[I", Cond.fieldLink RX8 72 "LimitTokensModel" "textSize" "[I", Cond.fieldLink RX8 37 "LimitTokensModel" "out" "[I", Cond.fieldLink RX8 81 "LimitTokensModel" "lock" "[I", Cond.fieldLink RX8 40 "LimitTokensModel" "kept" "[I", Cond.methodLink RX8 163 yX8_keyIs, Cond.instanceMethod yX8_keyIs, Cond.selects RX8 yX8_keyIs yX8_keyIs, Cond.initialized RX8, Cond.code yX8_keyIs cX8_keyIs 5 none, Cond.fieldLink RX8 31 "LimitTokensModel" "key" "[I", Cond.fieldLink RX8 132 "LimitTokensModel" "keySize" "I", Cond.fieldLink RX8 135 "LimitTokensModel" "messageSize" "I", Cond.methodLink RX8 166 yX8_add, Cond.instanceMethod yX8_add, Cond.selects RX8 yX8_add yX8_add, Cond.code yX8_add cX8_add 5 none, Cond.fieldLink RX8 34 "LimitTokensModel" "message" "[I", Cond.methodLink RX8 169 yX8_sealNow, Cond.instanceMethod yX8_sealNow, Cond.selects RX8 yX8_sealNow yX8_sealNow, Cond.code yX8_sealNow cX8_sealNow 2 none, Cond.fieldLink RX8 126 "LimitTokensModel" "inSize" "I"]
def wsX8_goOn_r2 : List Cond := [Cond.fieldLink RX8 28 "LimitTokensModel" "hashed" "[I", Cond.methodLink RX8 138 yX8_take, Cond.instanceMethod yX8_take, Cond.selects RX8 yX8_take yX8_take, Cond.code yX8_take cX8_take 5 none, Cond.fieldLink RX8 25 "LimitTokensModel" "in" "[I", Cond.methodLink RX8 142 yX8_hashNow, Cond.instanceMethod yX8_hashNow, Cond.selects RX8 yX8_hashNow yX8_hashNow, Cond.code yX8_hashNow cX8_hashNow 5 none, Cond.fieldLink RX8 16 "LimitTokensModel" "h" "[I", Cond.fieldLink RX8 7 "LimitTokensModel" "starts" "[I", Cond.fieldLink RX8 19 "LimitTokensModel" "w" "[I", Cond.methodLink RX8 129 yX8_mix, Cond.instanceMethod yX8_mix, Cond.selects RX8 yX8_mix yX8_mix, Cond.code yX8_mix cX8_mix 7 none, Cond.fieldLink RX8 22 "LimitTokensModel" "v" "[I", Cond.fieldLink RX8 13 "LimitTokensModel" "adds" "[I", Cond.methodLink RX8 123 yX8_turned, Cond.static yX8_turned, Cond.code yX8_turned cX8_turned 2 (some .int), Cond.methodLink RX8 145 yX8_keyed, Cond.instanceMethod yX8_keyed]
def wsX8_goOn_r3 : List Cond := [Cond.selects RX8 yX8_keyed yX8_keyed, Cond.code yX8_keyed cX8_keyed 3 none, Cond.methodLink RX8 149 yX8_copyTo, Cond.static yX8_copyTo, Cond.code yX8_copyTo cX8_copyTo 4 none]
def wsX8_goOn : List Cond := .code yX8_goOn cX8_goOn 4 none :: ((wsX8_goOn_r1 ++ (wsX8_goOn_r2 ++ wsX8_goOn_r3)) ++ wsX80)
def wsX8_limit_r1 : List Cond := [Cond.fieldLink RX8 112 "LimitTokensModel" "thrown" "I", Cond.fieldLink RX8 69 "LimitTokensModel" "limits" "[I", Cond.fieldLink RX8 78 "LimitTokensModel" "isOthers" "[Z", Cond.fieldLink RX8 84 "LimitTokensModel" "sign" "[I", Cond.methodLink RX8 175 yX8_isToken, Cond.instanceMethod yX8_isToken, Cond.selects RX8 yX8_isToken yX8_isToken, Cond.initialized RX8, Cond.code yX8_isToken cX8_isToken 2 (some .boolean), Cond.fieldLink RX8 59 "LimitTokensModel" "there" "[Z", Cond.methodLink RX8 157 yX8_is, Cond.static yX8_is, Cond.code yX8_is cX8_is 1 (some .boolean), Cond.methodLink RX8 153 yX8_within, Cond.static yX8_within, Cond.code yX8_within cX8_within 3 (some .boolean), Cond.methodLink RX8 172 yX8_isText, Cond.instanceMethod yX8_isText, Cond.selects RX8 yX8_isText yX8_isText, Cond.code yX8_isText cX8_isText 2 (some .boolean), Cond.fieldLink RX8 49 "LimitTokensModel" "registerSize" "[I", Cond.methodLink RX8 178 yX8_place, Cond.instanceMethod yX8_place, Cond.selects RX8 yX8_place yX8_place]
def wsX8_limit_r2 : List Cond := [Cond.code yX8_place cX8_place 5 (some .int), Cond.fieldLink RX8 72 "LimitTokensModel" "textSize" "[I", Cond.fieldLink RX8 75 "LimitTokensModel" "text" "[I", Cond.fieldLink RX8 46 "LimitTokensModel" "register" "[I", Cond.methodLink RX8 180 yX8_goOn, Cond.instanceMethod yX8_goOn, Cond.selects RX8 yX8_goOn yX8_goOn, Cond.code yX8_goOn cX8_goOn 4 none, Cond.fieldLink RX8 37 "LimitTokensModel" "out" "[I", Cond.fieldLink RX8 81 "LimitTokensModel" "lock" "[I", Cond.fieldLink RX8 40 "LimitTokensModel" "kept" "[I", Cond.methodLink RX8 163 yX8_keyIs, Cond.instanceMethod yX8_keyIs, Cond.selects RX8 yX8_keyIs yX8_keyIs, Cond.code yX8_keyIs cX8_keyIs 5 none, Cond.fieldLink RX8 31 "LimitTokensModel" "key" "[I", Cond.fieldLink RX8 132 "LimitTokensModel" "keySize" "I", Cond.fieldLink RX8 135 "LimitTokensModel" "messageSize" "I", Cond.methodLink RX8 166 yX8_add, Cond.instanceMethod yX8_add, Cond.selects RX8 yX8_add yX8_add, Cond.code yX8_add cX8_add 5 none, Cond.fieldLink RX8 34 "LimitTokensModel" "message" "[I", Cond.methodLink RX8 169 yX8_sealNow]
def wsX8_limit_r3 : List Cond := [Cond.instanceMethod yX8_sealNow, Cond.selects RX8 yX8_sealNow yX8_sealNow, Cond.code yX8_sealNow cX8_sealNow 2 none, Cond.fieldLink RX8 126 "LimitTokensModel" "inSize" "I", Cond.fieldLink RX8 28 "LimitTokensModel" "hashed" "[I", Cond.methodLink RX8 138 yX8_take, Cond.instanceMethod yX8_take, Cond.selects RX8 yX8_take yX8_take, Cond.code yX8_take cX8_take 5 none, Cond.fieldLink RX8 25 "LimitTokensModel" "in" "[I", Cond.methodLink RX8 142 yX8_hashNow, Cond.instanceMethod yX8_hashNow, Cond.selects RX8 yX8_hashNow yX8_hashNow, Cond.code yX8_hashNow cX8_hashNow 5 none, Cond.fieldLink RX8 16 "LimitTokensModel" "h" "[I", Cond.fieldLink RX8 7 "LimitTokensModel" "starts" "[I", Cond.fieldLink RX8 19 "LimitTokensModel" "w" "[I", Cond.methodLink RX8 129 yX8_mix, Cond.instanceMethod yX8_mix, Cond.selects RX8 yX8_mix yX8_mix, Cond.code yX8_mix cX8_mix 7 none, Cond.fieldLink RX8 22 "LimitTokensModel" "v" "[I", Cond.fieldLink RX8 13 "LimitTokensModel" "adds" "[I", Cond.methodLink RX8 123 yX8_turned]
def wsX8_limit_r4 : List Cond := [Cond.static yX8_turned, Cond.code yX8_turned cX8_turned 2 (some .int), Cond.methodLink RX8 145 yX8_keyed, Cond.instanceMethod yX8_keyed, Cond.selects RX8 yX8_keyed yX8_keyed, Cond.code yX8_keyed cX8_keyed 3 none, Cond.methodLink RX8 149 yX8_copyTo, Cond.static yX8_copyTo, Cond.code yX8_copyTo cX8_copyTo 4 none]
def wsX8_limit : List Cond := .code yX8_limit cX8_limit 4 (some .int) :: ((wsX8_limit_r1 ++ (wsX8_limit_r2 ++ (wsX8_limit_r3 ++ wsX8_limit_r4))) ++ wsX80)
def wsX8_others_r1 : List Cond := [Cond.fieldLink RX8 112 "LimitTokensModel" "thrown" "I", Cond.fieldLink RX8 69 "LimitTokensModel" "limits" "[I", Cond.fieldLink RX8 49 "LimitTokensModel" "registerSize" "[I", Cond.fieldLink RX8 78 "LimitTokensModel" "isOthers" "[Z", Cond.fieldLink RX8 84 "LimitTokensModel" "sign" "[I", Cond.fieldLink RX8 75 "LimitTokensModel" "text" "[I", Cond.fieldLink RX8 72 "LimitTokensModel" "textSize" "[I", Cond.fieldLink RX8 81 "LimitTokensModel" "lock" "[I", Cond.fieldLink RX8 46 "LimitTokensModel" "register" "[I", Cond.fieldLink RX8 37 "LimitTokensModel" "out" "[I", Cond.methodLink RX8 175 yX8_isToken, Cond.instanceMethod yX8_isToken, Cond.selects RX8 yX8_isToken yX8_isToken, Cond.initialized RX8, Cond.code yX8_isToken cX8_isToken 2 (some .boolean), Cond.fieldLink RX8 59 "LimitTokensModel" "there" "[Z", Cond.methodLink RX8 157 yX8_is, Cond.static yX8_is, Cond.code yX8_is cX8_is 1 (some .boolean), Cond.methodLink RX8 153 yX8_within, Cond.static yX8_within, Cond.code yX8_within cX8_within 3 (some .boolean), Cond.methodLink RX8 172 yX8_isText, Cond.instanceMethod yX8_isText]
def wsX8_others_r2 : List Cond := [Cond.selects RX8 yX8_isText yX8_isText, Cond.code yX8_isText cX8_isText 2 (some .boolean), Cond.methodLink RX8 178 yX8_place, Cond.instanceMethod yX8_place, Cond.selects RX8 yX8_place yX8_place, Cond.code yX8_place cX8_place 5 (some .int), Cond.methodLink RX8 163 yX8_keyIs, Cond.instanceMethod yX8_keyIs, Cond.selects RX8 yX8_keyIs yX8_keyIs, Cond.code yX8_keyIs cX8_keyIs 5 none, Cond.fieldLink RX8 31 "LimitTokensModel" "key" "[I", Cond.fieldLink RX8 132 "LimitTokensModel" "keySize" "I", Cond.fieldLink RX8 135 "LimitTokensModel" "messageSize" "I", Cond.methodLink RX8 166 yX8_add, Cond.instanceMethod yX8_add, Cond.selects RX8 yX8_add yX8_add, Cond.code yX8_add cX8_add 5 none, Cond.fieldLink RX8 34 "LimitTokensModel" "message" "[I", Cond.methodLink RX8 169 yX8_sealNow, Cond.instanceMethod yX8_sealNow, Cond.selects RX8 yX8_sealNow yX8_sealNow, Cond.code yX8_sealNow cX8_sealNow 2 none, Cond.fieldLink RX8 126 "LimitTokensModel" "inSize" "I", Cond.fieldLink RX8 28 "LimitTokensModel" "hashed" "[I"]
def wsX8_others_r3 : List Cond := [Cond.methodLink RX8 138 yX8_take, Cond.instanceMethod yX8_take, Cond.selects RX8 yX8_take yX8_take, Cond.code yX8_take cX8_take 5 none, Cond.fieldLink RX8 25 "LimitTokensModel" "in" "[I", Cond.methodLink RX8 142 yX8_hashNow, Cond.instanceMethod yX8_hashNow, Cond.selects RX8 yX8_hashNow yX8_hashNow, Cond.code yX8_hashNow cX8_hashNow 5 none, Cond.fieldLink RX8 16 "LimitTokensModel" "h" "[I", Cond.fieldLink RX8 7 "LimitTokensModel" "starts" "[I", Cond.fieldLink RX8 19 "LimitTokensModel" "w" "[I", Cond.methodLink RX8 129 yX8_mix, Cond.instanceMethod yX8_mix, Cond.selects RX8 yX8_mix yX8_mix, Cond.code yX8_mix cX8_mix 7 none, Cond.fieldLink RX8 22 "LimitTokensModel" "v" "[I", Cond.fieldLink RX8 13 "LimitTokensModel" "adds" "[I", Cond.methodLink RX8 123 yX8_turned, Cond.static yX8_turned, Cond.code yX8_turned cX8_turned 2 (some .int), Cond.methodLink RX8 145 yX8_keyed, Cond.instanceMethod yX8_keyed, Cond.selects RX8 yX8_keyed yX8_keyed]
def wsX8_others_r4 : List Cond := [Cond.code yX8_keyed cX8_keyed 3 none, Cond.methodLink RX8 149 yX8_copyTo, Cond.static yX8_copyTo, Cond.code yX8_copyTo cX8_copyTo 4 none, Cond.methodLink RX8 180 yX8_goOn, Cond.instanceMethod yX8_goOn, Cond.selects RX8 yX8_goOn yX8_goOn, Cond.code yX8_goOn cX8_goOn 4 none, Cond.fieldLink RX8 40 "LimitTokensModel" "kept" "[I"]
def wsX8_others : List Cond := .code yX8_others cX8_others 6 (some .int) :: ((wsX8_others_r1 ++ (wsX8_others_r2 ++ (wsX8_others_r3 ++ wsX8_others_r4))) ++ wsX80)
def wsX8_bind_r1 : List Cond := [Cond.fieldLink RX8 112 "LimitTokensModel" "thrown" "I", Cond.fieldLink RX8 43 "LimitTokensModel" "zeros" "[I", Cond.fieldLink RX8 84 "LimitTokensModel" "sign" "[I", Cond.fieldLink RX8 37 "LimitTokensModel" "out" "[I", Cond.methodLink RX8 175 yX8_isToken, Cond.instanceMethod yX8_isToken, Cond.selects RX8 yX8_isToken yX8_isToken, Cond.initialized RX8, Cond.code yX8_isToken cX8_isToken 2 (some .boolean), Cond.fieldLink RX8 59 "LimitTokensModel" "there" "[Z", Cond.methodLink RX8 157 yX8_is, Cond.static yX8_is, Cond.code yX8_is cX8_is 1 (some .boolean), Cond.methodLink RX8 153 yX8_within, Cond.static yX8_within, Cond.code yX8_within cX8_within 3 (some .boolean), Cond.methodLink RX8 163 yX8_keyIs, Cond.instanceMethod yX8_keyIs, Cond.selects RX8 yX8_keyIs yX8_keyIs, Cond.code yX8_keyIs cX8_keyIs 5 none, Cond.fieldLink RX8 31 "LimitTokensModel" "key" "[I", Cond.fieldLink RX8 132 "LimitTokensModel" "keySize" "I", Cond.fieldLink RX8 135 "LimitTokensModel" "messageSize" "I", Cond.methodLink RX8 166 yX8_add]
def wsX8_bind_r2 : List Cond := [Cond.instanceMethod yX8_add, Cond.selects RX8 yX8_add yX8_add, Cond.code yX8_add cX8_add 5 none, Cond.fieldLink RX8 34 "LimitTokensModel" "message" "[I", Cond.methodLink RX8 169 yX8_sealNow, Cond.instanceMethod yX8_sealNow, Cond.selects RX8 yX8_sealNow yX8_sealNow, Cond.code yX8_sealNow cX8_sealNow 2 none, Cond.fieldLink RX8 126 "LimitTokensModel" "inSize" "I", Cond.fieldLink RX8 28 "LimitTokensModel" "hashed" "[I", Cond.methodLink RX8 138 yX8_take, Cond.instanceMethod yX8_take, Cond.selects RX8 yX8_take yX8_take, Cond.code yX8_take cX8_take 5 none, Cond.fieldLink RX8 25 "LimitTokensModel" "in" "[I", Cond.methodLink RX8 142 yX8_hashNow, Cond.instanceMethod yX8_hashNow, Cond.selects RX8 yX8_hashNow yX8_hashNow, Cond.code yX8_hashNow cX8_hashNow 5 none, Cond.fieldLink RX8 16 "LimitTokensModel" "h" "[I", Cond.fieldLink RX8 7 "LimitTokensModel" "starts" "[I", Cond.fieldLink RX8 19 "LimitTokensModel" "w" "[I", Cond.methodLink RX8 129 yX8_mix, Cond.instanceMethod yX8_mix]
def wsX8_bind_r3 : List Cond := [Cond.selects RX8 yX8_mix yX8_mix, Cond.code yX8_mix cX8_mix 7 none, Cond.fieldLink RX8 22 "LimitTokensModel" "v" "[I", Cond.fieldLink RX8 13 "LimitTokensModel" "adds" "[I", Cond.methodLink RX8 123 yX8_turned, Cond.static yX8_turned, Cond.code yX8_turned cX8_turned 2 (some .int), Cond.methodLink RX8 145 yX8_keyed, Cond.instanceMethod yX8_keyed, Cond.selects RX8 yX8_keyed yX8_keyed, Cond.code yX8_keyed cX8_keyed 3 none, Cond.methodLink RX8 149 yX8_copyTo, Cond.static yX8_copyTo, Cond.code yX8_copyTo cX8_copyTo 4 none]
def wsX8_bind : List Cond := .code yX8_bind cX8_bind 3 (some .int) :: ((wsX8_bind_r1 ++ (wsX8_bind_r2 ++ wsX8_bind_r3)) ++ wsX80)
def wsX8_copyToken : List Cond := .code yX8_copyToken cX8_copyToken 4 none :: ([.fieldLink RX8 59 "LimitTokensModel" "there" "[Z", .fieldLink RX8 63 "LimitTokensModel" "nameSize" "[I", .fieldLink RX8 69 "LimitTokensModel" "limits" "[I", .fieldLink RX8 66 "LimitTokensModel" "name" "[I", .fieldLink RX8 72 "LimitTokensModel" "textSize" "[I", .fieldLink RX8 78 "LimitTokensModel" "isOthers" "[Z", .fieldLink RX8 75 "LimitTokensModel" "text" "[I", .fieldLink RX8 81 "LimitTokensModel" "lock" "[I", .fieldLink RX8 84 "LimitTokensModel" "sign" "[I"] ++ wsX80)
def wsX8_copy_r1 : List Cond := [Cond.fieldLink RX8 112 "LimitTokensModel" "thrown" "I", Cond.fieldLink RX8 69 "LimitTokensModel" "limits" "[I", Cond.methodLink RX8 175 yX8_isToken, Cond.instanceMethod yX8_isToken, Cond.selects RX8 yX8_isToken yX8_isToken, Cond.initialized RX8, Cond.code yX8_isToken cX8_isToken 2 (some .boolean), Cond.fieldLink RX8 59 "LimitTokensModel" "there" "[Z", Cond.methodLink RX8 157 yX8_is, Cond.static yX8_is, Cond.code yX8_is cX8_is 1 (some .boolean), Cond.methodLink RX8 153 yX8_within, Cond.static yX8_within, Cond.code yX8_within cX8_within 3 (some .boolean), Cond.methodLink RX8 183 yX8_copyToken, Cond.instanceMethod yX8_copyToken, Cond.selects RX8 yX8_copyToken yX8_copyToken, Cond.code yX8_copyToken cX8_copyToken 4 none, Cond.fieldLink RX8 63 "LimitTokensModel" "nameSize" "[I", Cond.fieldLink RX8 66 "LimitTokensModel" "name" "[I", Cond.fieldLink RX8 72 "LimitTokensModel" "textSize" "[I", Cond.fieldLink RX8 78 "LimitTokensModel" "isOthers" "[Z", Cond.fieldLink RX8 75 "LimitTokensModel" "text" "[I", Cond.fieldLink RX8 81 "LimitTokensModel" "lock" "[I"]
def wsX8_copy_r2 : List Cond := [Cond.fieldLink RX8 84 "LimitTokensModel" "sign" "[I"]
def wsX8_copy : List Cond := .code yX8_copy cX8_copy 3 (some .int) :: ((wsX8_copy_r1 ++ wsX8_copy_r2) ++ wsX80)
def wsX8_drop : List Cond := .code yX8_drop cX8_drop 3 (some .int) :: ([.fieldLink RX8 112 "LimitTokensModel" "thrown" "I", .fieldLink RX8 59 "LimitTokensModel" "there" "[Z", .methodLink RX8 157 yX8_is, .static yX8_is, .initialized RX8, .code yX8_is cX8_is 1 (some .boolean), .methodLink RX8 153 yX8_within, .static yX8_within, .code yX8_within cX8_within 3 (some .boolean)] ++ wsX80)
def wsX8_told : List Cond := .code yX8_told cX8_told 4 (some .int) :: ([.fieldLink RX8 112 "LimitTokensModel" "thrown" "I", .fieldLink RX8 63 "LimitTokensModel" "nameSize" "[I", .fieldLink RX8 69 "LimitTokensModel" "limits" "[I", .fieldLink RX8 72 "LimitTokensModel" "textSize" "[I", .fieldLink RX8 78 "LimitTokensModel" "isOthers" "[Z", .methodLink RX8 175 yX8_isToken, .instanceMethod yX8_isToken, .selects RX8 yX8_isToken yX8_isToken, .initialized RX8, .code yX8_isToken cX8_isToken 2 (some .boolean), .fieldLink RX8 59 "LimitTokensModel" "there" "[Z", .methodLink RX8 157 yX8_is, .static yX8_is, .code yX8_is cX8_is 1 (some .boolean), .methodLink RX8 153 yX8_within, .static yX8_within, .code yX8_within cX8_within 3 (some .boolean)] ++ wsX80)
def wsX8_sign : List Cond := .code yX8_sign cX8_sign 3 (some .int) :: ([.fieldLink RX8 112 "LimitTokensModel" "thrown" "I", .fieldLink RX8 84 "LimitTokensModel" "sign" "[I", .methodLink RX8 175 yX8_isToken, .instanceMethod yX8_isToken, .selects RX8 yX8_isToken yX8_isToken, .initialized RX8, .code yX8_isToken cX8_isToken 2 (some .boolean), .fieldLink RX8 59 "LimitTokensModel" "there" "[Z", .methodLink RX8 157 yX8_is, .static yX8_is, .code yX8_is cX8_is 1 (some .boolean), .methodLink RX8 153 yX8_within, .static yX8_within, .code yX8_within cX8_within 3 (some .boolean)] ++ wsX80)
def wsX8_spoil : List Cond := .code yX8_spoil cX8_spoil 6 (some .int) :: ([.fieldLink RX8 112 "LimitTokensModel" "thrown" "I", .fieldLink RX8 69 "LimitTokensModel" "limits" "[I", .fieldLink RX8 72 "LimitTokensModel" "textSize" "[I", .fieldLink RX8 84 "LimitTokensModel" "sign" "[I", .fieldLink RX8 75 "LimitTokensModel" "text" "[I", .methodLink RX8 175 yX8_isToken, .instanceMethod yX8_isToken, .selects RX8 yX8_isToken yX8_isToken, .initialized RX8, .code yX8_isToken cX8_isToken 2 (some .boolean), .fieldLink RX8 59 "LimitTokensModel" "there" "[Z", .methodLink RX8 157 yX8_is, .static yX8_is, .code yX8_is cX8_is 1 (some .boolean), .methodLink RX8 153 yX8_within, .static yX8_within, .code yX8_within cX8_within 3 (some .boolean)] ++ wsX80)
def wsX8_ask : List Cond := .code yX8_ask cX8_ask 4 (some .int) :: ([.fieldLink RX8 112 "LimitTokensModel" "thrown" "I", .constant RX8 187 (999999), .fieldLink RX8 87 "LimitTokensModel" "asked" "[I", .methodLink RX8 157 yX8_is, .static yX8_is, .initialized RX8, .code yX8_is cX8_is 1 (some .boolean), .methodLink RX8 153 yX8_within, .static yX8_within, .code yX8_within cX8_within 3 (some .boolean)] ++ wsX80)
def wsX8_isDigit : List Cond := .code yX8_isDigit cX8_isDigit 1 (some .boolean) :: ([.methodLink RX8 153 yX8_within, .static yX8_within, .initialized RX8, .code yX8_within cX8_within 3 (some .boolean)])
def wsX8_truthOf : List Cond := .code yX8_truthOf cX8_truthOf 15 (some .int) :: ([.fieldLink RX8 87 "LimitTokensModel" "asked" "[I", .methodLink RX8 153 yX8_within, .static yX8_within, .initialized RX8, .code yX8_within cX8_within 3 (some .boolean), .methodLink RX8 188 yX8_isDigit, .static yX8_isDigit, .code yX8_isDigit cX8_isDigit 1 (some .boolean)] ++ wsX80)
def wsX8_truth : List Cond := .code yX8_truth cX8_truth 2 (some .int) :: ([.fieldLink RX8 112 "LimitTokensModel" "thrown" "I", .fieldLink RX8 46 "LimitTokensModel" "register" "[I", .fieldLink RX8 49 "LimitTokensModel" "registerSize" "[I", .methodLink RX8 157 yX8_is, .static yX8_is, .initialized RX8, .code yX8_is cX8_is 1 (some .boolean), .methodLink RX8 153 yX8_within, .static yX8_within, .code yX8_within cX8_within 3 (some .boolean), .methodLink RX8 191 yX8_truthOf, .instanceMethod yX8_truthOf, .selects RX8 yX8_truthOf yX8_truthOf, .code yX8_truthOf cX8_truthOf 15 (some .int), .fieldLink RX8 87 "LimitTokensModel" "asked" "[I", .methodLink RX8 188 yX8_isDigit, .static yX8_isDigit, .code yX8_isDigit cX8_isDigit 1 (some .boolean)] ++ wsX80)
def wsX8_fail : List Cond := .code yX8_fail cX8_fail 4 (some .int) :: ([.fieldLink RX8 102 "LimitTokensModel" "faultToken" "I", .fieldLink RX8 105 "LimitTokensModel" "faultLimit" "I"] ++ wsX80)
def wsX8_isSame : List Cond := .code yX8_isSame cX8_isSame 5 (some .boolean) :: ([.fieldLink RX8 84 "LimitTokensModel" "sign" "[I"] ++ wsX80)
def wsX8_isNamed : List Cond := .code yX8_isNamed cX8_isNamed 5 (some .boolean) :: ([.fieldLink RX8 63 "LimitTokensModel" "nameSize" "[I", .fieldLink RX8 72 "LimitTokensModel" "textSize" "[I", .fieldLink RX8 66 "LimitTokensModel" "name" "[I", .fieldLink RX8 75 "LimitTokensModel" "text" "[I"] ++ wsX80)
def wsX8_beginWalk_r1 : List Cond := [Cond.fieldLink RX8 66 "LimitTokensModel" "name" "[I", Cond.fieldLink RX8 63 "LimitTokensModel" "nameSize" "[I", Cond.fieldLink RX8 37 "LimitTokensModel" "out" "[I", Cond.fieldLink RX8 96 "LimitTokensModel" "pile" "[I", Cond.fieldLink RX8 195 "LimitTokensModel" "depth" "I", Cond.fieldLink RX8 90 "LimitTokensModel" "walker" "[I", Cond.fieldLink RX8 93 "LimitTokensModel" "step" "[I", Cond.methodLink RX8 166 yX8_add, Cond.instanceMethod yX8_add, Cond.selects RX8 yX8_add yX8_add, Cond.initialized RX8, Cond.code yX8_add cX8_add 5 none, Cond.fieldLink RX8 34 "LimitTokensModel" "message" "[I", Cond.fieldLink RX8 135 "LimitTokensModel" "messageSize" "I", Cond.methodLink RX8 169 yX8_sealNow, Cond.instanceMethod yX8_sealNow, Cond.selects RX8 yX8_sealNow yX8_sealNow, Cond.code yX8_sealNow cX8_sealNow 2 none, Cond.fieldLink RX8 132 "LimitTokensModel" "keySize" "I", Cond.fieldLink RX8 126 "LimitTokensModel" "inSize" "I", Cond.fieldLink RX8 31 "LimitTokensModel" "key" "[I", Cond.fieldLink RX8 28 "LimitTokensModel" "hashed" "[I", Cond.methodLink RX8 138 yX8_take, Cond.instanceMethod yX8_take]
def wsX8_beginWalk_r2 : List Cond := [Cond.selects RX8 yX8_take yX8_take, Cond.code yX8_take cX8_take 5 none, Cond.fieldLink RX8 25 "LimitTokensModel" "in" "[I", Cond.methodLink RX8 142 yX8_hashNow, Cond.instanceMethod yX8_hashNow, Cond.selects RX8 yX8_hashNow yX8_hashNow, Cond.code yX8_hashNow cX8_hashNow 5 none, Cond.fieldLink RX8 16 "LimitTokensModel" "h" "[I", Cond.fieldLink RX8 7 "LimitTokensModel" "starts" "[I", Cond.fieldLink RX8 19 "LimitTokensModel" "w" "[I", Cond.methodLink RX8 129 yX8_mix, Cond.instanceMethod yX8_mix, Cond.selects RX8 yX8_mix yX8_mix, Cond.code yX8_mix cX8_mix 7 none, Cond.fieldLink RX8 22 "LimitTokensModel" "v" "[I", Cond.fieldLink RX8 13 "LimitTokensModel" "adds" "[I", Cond.methodLink RX8 123 yX8_turned, Cond.static yX8_turned, Cond.code yX8_turned cX8_turned 2 (some .int), Cond.methodLink RX8 145 yX8_keyed, Cond.instanceMethod yX8_keyed, Cond.selects RX8 yX8_keyed yX8_keyed, Cond.code yX8_keyed cX8_keyed 3 none, Cond.methodLink RX8 149 yX8_copyTo]
def wsX8_beginWalk_r3 : List Cond := [Cond.static yX8_copyTo, Cond.code yX8_copyTo cX8_copyTo 4 none]
def wsX8_beginWalk : List Cond := .code yX8_beginWalk cX8_beginWalk 2 none :: ((wsX8_beginWalk_r1 ++ (wsX8_beginWalk_r2 ++ wsX8_beginWalk_r3)) ++ wsX80)
def wsX8_endWalk_r1 : List Cond := [Cond.fieldLink RX8 37 "LimitTokensModel" "out" "[I", Cond.fieldLink RX8 96 "LimitTokensModel" "pile" "[I", Cond.fieldLink RX8 195 "LimitTokensModel" "depth" "I", Cond.fieldLink RX8 69 "LimitTokensModel" "limits" "[I", Cond.fieldLink RX8 43 "LimitTokensModel" "zeros" "[I", Cond.fieldLink RX8 84 "LimitTokensModel" "sign" "[I", Cond.fieldLink RX8 93 "LimitTokensModel" "step" "[I", Cond.fieldLink RX8 90 "LimitTokensModel" "walker" "[I", Cond.methodLink RX8 223 yX8_isSame, Cond.instanceMethod yX8_isSame, Cond.selects RX8 yX8_isSame yX8_isSame, Cond.initialized RX8, Cond.code yX8_isSame cX8_isSame 5 (some .boolean), Cond.methodLink RX8 216 yX8_fail, Cond.instanceMethod yX8_fail, Cond.selects RX8 yX8_fail yX8_fail, Cond.code yX8_fail cX8_fail 4 (some .int), Cond.fieldLink RX8 102 "LimitTokensModel" "faultToken" "I", Cond.fieldLink RX8 105 "LimitTokensModel" "faultLimit" "I", Cond.methodLink RX8 163 yX8_keyIs, Cond.instanceMethod yX8_keyIs, Cond.selects RX8 yX8_keyIs yX8_keyIs, Cond.code yX8_keyIs cX8_keyIs 5 none, Cond.fieldLink RX8 31 "LimitTokensModel" "key" "[I"]
def wsX8_endWalk_r2 : List Cond := [Cond.fieldLink RX8 132 "LimitTokensModel" "keySize" "I", Cond.fieldLink RX8 135 "LimitTokensModel" "messageSize" "I", Cond.methodLink RX8 166 yX8_add, Cond.instanceMethod yX8_add, Cond.selects RX8 yX8_add yX8_add, Cond.code yX8_add cX8_add 5 none, Cond.fieldLink RX8 34 "LimitTokensModel" "message" "[I", Cond.methodLink RX8 169 yX8_sealNow, Cond.instanceMethod yX8_sealNow, Cond.selects RX8 yX8_sealNow yX8_sealNow, Cond.code yX8_sealNow cX8_sealNow 2 none, Cond.fieldLink RX8 126 "LimitTokensModel" "inSize" "I", Cond.fieldLink RX8 28 "LimitTokensModel" "hashed" "[I", Cond.methodLink RX8 138 yX8_take, Cond.instanceMethod yX8_take, Cond.selects RX8 yX8_take yX8_take, Cond.code yX8_take cX8_take 5 none, Cond.fieldLink RX8 25 "LimitTokensModel" "in" "[I", Cond.methodLink RX8 142 yX8_hashNow, Cond.instanceMethod yX8_hashNow, Cond.selects RX8 yX8_hashNow yX8_hashNow, Cond.code yX8_hashNow cX8_hashNow 5 none, Cond.fieldLink RX8 16 "LimitTokensModel" "h" "[I", Cond.fieldLink RX8 7 "LimitTokensModel" "starts" "[I"]
def wsX8_endWalk_r3 : List Cond := [Cond.fieldLink RX8 19 "LimitTokensModel" "w" "[I", Cond.methodLink RX8 129 yX8_mix, Cond.instanceMethod yX8_mix, Cond.selects RX8 yX8_mix yX8_mix, Cond.code yX8_mix cX8_mix 7 none, Cond.fieldLink RX8 22 "LimitTokensModel" "v" "[I", Cond.fieldLink RX8 13 "LimitTokensModel" "adds" "[I", Cond.methodLink RX8 123 yX8_turned, Cond.static yX8_turned, Cond.code yX8_turned cX8_turned 2 (some .int), Cond.methodLink RX8 145 yX8_keyed, Cond.instanceMethod yX8_keyed, Cond.selects RX8 yX8_keyed yX8_keyed, Cond.code yX8_keyed cX8_keyed 3 none, Cond.methodLink RX8 149 yX8_copyTo, Cond.static yX8_copyTo, Cond.code yX8_copyTo cX8_copyTo 4 none, Cond.methodLink RX8 180 yX8_goOn, Cond.instanceMethod yX8_goOn, Cond.selects RX8 yX8_goOn yX8_goOn, Cond.code yX8_goOn cX8_goOn 4 none, Cond.fieldLink RX8 78 "LimitTokensModel" "isOthers" "[Z", Cond.fieldLink RX8 75 "LimitTokensModel" "text" "[I", Cond.fieldLink RX8 72 "LimitTokensModel" "textSize" "[I"]
def wsX8_endWalk_r4 : List Cond := [Cond.fieldLink RX8 81 "LimitTokensModel" "lock" "[I", Cond.fieldLink RX8 40 "LimitTokensModel" "kept" "[I"]
def wsX8_endWalk : List Cond := .code yX8_endWalk cX8_endWalk 5 (some .int) :: ((wsX8_endWalk_r1 ++ (wsX8_endWalk_r2 ++ (wsX8_endWalk_r3 ++ wsX8_endWalk_r4))) ++ wsX80)
def wsX8_walkOn_r1 : List Cond := [Cond.fieldLink RX8 195 "LimitTokensModel" "depth" "I", Cond.fieldLink RX8 90 "LimitTokensModel" "walker" "[I", Cond.fieldLink RX8 93 "LimitTokensModel" "step" "[I", Cond.fieldLink RX8 69 "LimitTokensModel" "limits" "[I", Cond.fieldLink RX8 78 "LimitTokensModel" "isOthers" "[Z", Cond.fieldLink RX8 75 "LimitTokensModel" "text" "[I", Cond.fieldLink RX8 72 "LimitTokensModel" "textSize" "[I", Cond.fieldLink RX8 96 "LimitTokensModel" "pile" "[I", Cond.fieldLink RX8 99 "LimitTokensModel" "walked" "[Z", Cond.fieldLink RX8 202 "LimitTokensModel" "begun" "I", Cond.fieldLink RX8 40 "LimitTokensModel" "kept" "[I", Cond.fieldLink RX8 81 "LimitTokensModel" "lock" "[I", Cond.fieldLink RX8 37 "LimitTokensModel" "out" "[I", Cond.methodLink RX8 212 yX8_endWalk, Cond.instanceMethod yX8_endWalk, Cond.selects RX8 yX8_endWalk yX8_endWalk, Cond.initialized RX8, Cond.code yX8_endWalk cX8_endWalk 5 (some .int), Cond.fieldLink RX8 43 "LimitTokensModel" "zeros" "[I", Cond.fieldLink RX8 84 "LimitTokensModel" "sign" "[I", Cond.methodLink RX8 223 yX8_isSame, Cond.instanceMethod yX8_isSame, Cond.selects RX8 yX8_isSame yX8_isSame, Cond.code yX8_isSame cX8_isSame 5 (some .boolean)]
def wsX8_walkOn_r2 : List Cond := [Cond.methodLink RX8 216 yX8_fail, Cond.instanceMethod yX8_fail, Cond.selects RX8 yX8_fail yX8_fail, Cond.code yX8_fail cX8_fail 4 (some .int), Cond.fieldLink RX8 102 "LimitTokensModel" "faultToken" "I", Cond.fieldLink RX8 105 "LimitTokensModel" "faultLimit" "I", Cond.methodLink RX8 163 yX8_keyIs, Cond.instanceMethod yX8_keyIs, Cond.selects RX8 yX8_keyIs yX8_keyIs, Cond.code yX8_keyIs cX8_keyIs 5 none, Cond.fieldLink RX8 31 "LimitTokensModel" "key" "[I", Cond.fieldLink RX8 132 "LimitTokensModel" "keySize" "I", Cond.fieldLink RX8 135 "LimitTokensModel" "messageSize" "I", Cond.methodLink RX8 166 yX8_add, Cond.instanceMethod yX8_add, Cond.selects RX8 yX8_add yX8_add, Cond.code yX8_add cX8_add 5 none, Cond.fieldLink RX8 34 "LimitTokensModel" "message" "[I", Cond.methodLink RX8 169 yX8_sealNow, Cond.instanceMethod yX8_sealNow, Cond.selects RX8 yX8_sealNow yX8_sealNow, Cond.code yX8_sealNow cX8_sealNow 2 none, Cond.fieldLink RX8 126 "LimitTokensModel" "inSize" "I", Cond.fieldLink RX8 28 "LimitTokensModel" "hashed" "[I"]
def wsX8_walkOn_r3 : List Cond := [Cond.methodLink RX8 138 yX8_take, Cond.instanceMethod yX8_take, Cond.selects RX8 yX8_take yX8_take, Cond.code yX8_take cX8_take 5 none, Cond.fieldLink RX8 25 "LimitTokensModel" "in" "[I", Cond.methodLink RX8 142 yX8_hashNow, Cond.instanceMethod yX8_hashNow, Cond.selects RX8 yX8_hashNow yX8_hashNow, Cond.code yX8_hashNow cX8_hashNow 5 none, Cond.fieldLink RX8 16 "LimitTokensModel" "h" "[I", Cond.fieldLink RX8 7 "LimitTokensModel" "starts" "[I", Cond.fieldLink RX8 19 "LimitTokensModel" "w" "[I", Cond.methodLink RX8 129 yX8_mix, Cond.instanceMethod yX8_mix, Cond.selects RX8 yX8_mix yX8_mix, Cond.code yX8_mix cX8_mix 7 none, Cond.fieldLink RX8 22 "LimitTokensModel" "v" "[I", Cond.fieldLink RX8 13 "LimitTokensModel" "adds" "[I", Cond.methodLink RX8 123 yX8_turned, Cond.static yX8_turned, Cond.code yX8_turned cX8_turned 2 (some .int), Cond.methodLink RX8 145 yX8_keyed, Cond.instanceMethod yX8_keyed, Cond.selects RX8 yX8_keyed yX8_keyed]
def wsX8_walkOn_r4 : List Cond := [Cond.code yX8_keyed cX8_keyed 3 none, Cond.methodLink RX8 149 yX8_copyTo, Cond.static yX8_copyTo, Cond.code yX8_copyTo cX8_copyTo 4 none, Cond.methodLink RX8 180 yX8_goOn, Cond.instanceMethod yX8_goOn, Cond.selects RX8 yX8_goOn yX8_goOn, Cond.code yX8_goOn cX8_goOn 4 none, Cond.methodLink RX8 191 yX8_truthOf, Cond.instanceMethod yX8_truthOf, Cond.selects RX8 yX8_truthOf yX8_truthOf, Cond.code yX8_truthOf cX8_truthOf 15 (some .int), Cond.fieldLink RX8 87 "LimitTokensModel" "asked" "[I", Cond.methodLink RX8 153 yX8_within, Cond.static yX8_within, Cond.code yX8_within cX8_within 3 (some .boolean), Cond.methodLink RX8 188 yX8_isDigit, Cond.static yX8_isDigit, Cond.code yX8_isDigit cX8_isDigit 1 (some .boolean), Cond.methodLink RX8 219 yX8_isNamed, Cond.instanceMethod yX8_isNamed, Cond.selects RX8 yX8_isNamed yX8_isNamed, Cond.code yX8_isNamed cX8_isNamed 5 (some .boolean), Cond.fieldLink RX8 63 "LimitTokensModel" "nameSize" "[I"]
def wsX8_walkOn_r5 : List Cond := [Cond.fieldLink RX8 66 "LimitTokensModel" "name" "[I", Cond.methodLink RX8 205 yX8_beginWalk, Cond.instanceMethod yX8_beginWalk, Cond.selects RX8 yX8_beginWalk yX8_beginWalk, Cond.code yX8_beginWalk cX8_beginWalk 2 none]
def wsX8_walkOn : List Cond := .code yX8_walkOn cX8_walkOn 7 (some .int) :: ((wsX8_walkOn_r1 ++ (wsX8_walkOn_r2 ++ (wsX8_walkOn_r3 ++ (wsX8_walkOn_r4 ++ wsX8_walkOn_r5)))) ++ wsX80)
def wsX8_prove_r1 : List Cond := [Cond.fieldLink RX8 112 "LimitTokensModel" "thrown" "I", Cond.fieldLink RX8 59 "LimitTokensModel" "there" "[Z", Cond.fieldLink RX8 99 "LimitTokensModel" "walked" "[Z", Cond.fieldLink RX8 198 "LimitTokensModel" "proved" "Z", Cond.fieldLink RX8 202 "LimitTokensModel" "begun" "I", Cond.fieldLink RX8 102 "LimitTokensModel" "faultToken" "I", Cond.fieldLink RX8 105 "LimitTokensModel" "faultLimit" "I", Cond.fieldLink RX8 195 "LimitTokensModel" "depth" "I", Cond.fieldLink RX8 46 "LimitTokensModel" "register" "[I", Cond.fieldLink RX8 49 "LimitTokensModel" "registerSize" "[I", Cond.methodLink RX8 175 yX8_isToken, Cond.instanceMethod yX8_isToken, Cond.selects RX8 yX8_isToken yX8_isToken, Cond.initialized RX8, Cond.code yX8_isToken cX8_isToken 2 (some .boolean), Cond.methodLink RX8 157 yX8_is, Cond.static yX8_is, Cond.code yX8_is cX8_is 1 (some .boolean), Cond.methodLink RX8 153 yX8_within, Cond.static yX8_within, Cond.code yX8_within cX8_within 3 (some .boolean), Cond.methodLink RX8 163 yX8_keyIs, Cond.instanceMethod yX8_keyIs, Cond.selects RX8 yX8_keyIs yX8_keyIs]
def wsX8_prove_r2 : List Cond := [Cond.code yX8_keyIs cX8_keyIs 5 none, Cond.fieldLink RX8 31 "LimitTokensModel" "key" "[I", Cond.fieldLink RX8 132 "LimitTokensModel" "keySize" "I", Cond.fieldLink RX8 135 "LimitTokensModel" "messageSize" "I", Cond.methodLink RX8 205 yX8_beginWalk, Cond.instanceMethod yX8_beginWalk, Cond.selects RX8 yX8_beginWalk yX8_beginWalk, Cond.code yX8_beginWalk cX8_beginWalk 2 none, Cond.fieldLink RX8 66 "LimitTokensModel" "name" "[I", Cond.fieldLink RX8 63 "LimitTokensModel" "nameSize" "[I", Cond.fieldLink RX8 37 "LimitTokensModel" "out" "[I", Cond.fieldLink RX8 96 "LimitTokensModel" "pile" "[I", Cond.fieldLink RX8 90 "LimitTokensModel" "walker" "[I", Cond.fieldLink RX8 93 "LimitTokensModel" "step" "[I", Cond.methodLink RX8 166 yX8_add, Cond.instanceMethod yX8_add, Cond.selects RX8 yX8_add yX8_add, Cond.code yX8_add cX8_add 5 none, Cond.fieldLink RX8 34 "LimitTokensModel" "message" "[I", Cond.methodLink RX8 169 yX8_sealNow, Cond.instanceMethod yX8_sealNow, Cond.selects RX8 yX8_sealNow yX8_sealNow, Cond.code yX8_sealNow cX8_sealNow 2 none, Cond.fieldLink RX8 126 "LimitTokensModel" "inSize" "I"]
def wsX8_prove_r3 : List Cond := [Cond.fieldLink RX8 28 "LimitTokensModel" "hashed" "[I", Cond.methodLink RX8 138 yX8_take, Cond.instanceMethod yX8_take, Cond.selects RX8 yX8_take yX8_take, Cond.code yX8_take cX8_take 5 none, Cond.fieldLink RX8 25 "LimitTokensModel" "in" "[I", Cond.methodLink RX8 142 yX8_hashNow, Cond.instanceMethod yX8_hashNow, Cond.selects RX8 yX8_hashNow yX8_hashNow, Cond.code yX8_hashNow cX8_hashNow 5 none, Cond.fieldLink RX8 16 "LimitTokensModel" "h" "[I", Cond.fieldLink RX8 7 "LimitTokensModel" "starts" "[I", Cond.fieldLink RX8 19 "LimitTokensModel" "w" "[I", Cond.methodLink RX8 129 yX8_mix, Cond.instanceMethod yX8_mix, Cond.selects RX8 yX8_mix yX8_mix, Cond.code yX8_mix cX8_mix 7 none, Cond.fieldLink RX8 22 "LimitTokensModel" "v" "[I", Cond.fieldLink RX8 13 "LimitTokensModel" "adds" "[I", Cond.methodLink RX8 123 yX8_turned, Cond.static yX8_turned, Cond.code yX8_turned cX8_turned 2 (some .int), Cond.methodLink RX8 145 yX8_keyed, Cond.instanceMethod yX8_keyed]
def wsX8_prove_r4 : List Cond := [Cond.selects RX8 yX8_keyed yX8_keyed, Cond.code yX8_keyed cX8_keyed 3 none, Cond.methodLink RX8 149 yX8_copyTo, Cond.static yX8_copyTo, Cond.code yX8_copyTo cX8_copyTo 4 none, Cond.methodLink RX8 208 yX8_walkOn, Cond.instanceMethod yX8_walkOn, Cond.selects RX8 yX8_walkOn yX8_walkOn, Cond.code yX8_walkOn cX8_walkOn 7 (some .int), Cond.fieldLink RX8 69 "LimitTokensModel" "limits" "[I", Cond.fieldLink RX8 78 "LimitTokensModel" "isOthers" "[Z", Cond.fieldLink RX8 75 "LimitTokensModel" "text" "[I", Cond.fieldLink RX8 72 "LimitTokensModel" "textSize" "[I", Cond.fieldLink RX8 40 "LimitTokensModel" "kept" "[I", Cond.fieldLink RX8 81 "LimitTokensModel" "lock" "[I", Cond.methodLink RX8 212 yX8_endWalk, Cond.instanceMethod yX8_endWalk, Cond.selects RX8 yX8_endWalk yX8_endWalk, Cond.code yX8_endWalk cX8_endWalk 5 (some .int), Cond.fieldLink RX8 43 "LimitTokensModel" "zeros" "[I", Cond.fieldLink RX8 84 "LimitTokensModel" "sign" "[I", Cond.methodLink RX8 223 yX8_isSame, Cond.instanceMethod yX8_isSame, Cond.selects RX8 yX8_isSame yX8_isSame]
def wsX8_prove_r5 : List Cond := [Cond.code yX8_isSame cX8_isSame 5 (some .boolean), Cond.methodLink RX8 216 yX8_fail, Cond.instanceMethod yX8_fail, Cond.selects RX8 yX8_fail yX8_fail, Cond.code yX8_fail cX8_fail 4 (some .int), Cond.methodLink RX8 180 yX8_goOn, Cond.instanceMethod yX8_goOn, Cond.selects RX8 yX8_goOn yX8_goOn, Cond.code yX8_goOn cX8_goOn 4 none, Cond.methodLink RX8 191 yX8_truthOf, Cond.instanceMethod yX8_truthOf, Cond.selects RX8 yX8_truthOf yX8_truthOf, Cond.code yX8_truthOf cX8_truthOf 15 (some .int), Cond.fieldLink RX8 87 "LimitTokensModel" "asked" "[I", Cond.methodLink RX8 188 yX8_isDigit, Cond.static yX8_isDigit, Cond.code yX8_isDigit cX8_isDigit 1 (some .boolean), Cond.methodLink RX8 219 yX8_isNamed, Cond.instanceMethod yX8_isNamed, Cond.selects RX8 yX8_isNamed yX8_isNamed, Cond.code yX8_isNamed cX8_isNamed 5 (some .boolean)]
def wsX8_prove : List Cond := .code yX8_prove cX8_prove 5 (some .int) :: ((wsX8_prove_r1 ++ (wsX8_prove_r2 ++ (wsX8_prove_r3 ++ (wsX8_prove_r4 ++ wsX8_prove_r5)))) ++ wsX80)
def wsX8_fault : List Cond := .code yX8_fault cX8_fault 2 (some .int) :: ([.fieldLink RX8 112 "LimitTokensModel" "thrown" "I", .fieldLink RX8 198 "LimitTokensModel" "proved" "Z", .fieldLink RX8 102 "LimitTokensModel" "faultToken" "I", .fieldLink RX8 105 "LimitTokensModel" "faultLimit" "I", .fieldLink RX8 202 "LimitTokensModel" "begun" "I", .methodLink RX8 153 yX8_within, .static yX8_within, .initialized RX8, .code yX8_within cX8_within 3 (some .boolean)] ++ wsX80)
def wsX8_put : List Cond := .code yX8_put cX8_put 2 none :: ([.fieldLink RX8 52 "LimitTokensModel" "tape" "[I", .fieldLink RX8 227 "LimitTokensModel" "tapeSize" "I"] ++ wsX80)
def wsX8_putRow : List Cond := .code yX8_putRow cX8_putRow 6 none :: ([.methodLink RX8 230 yX8_put, .instanceMethod yX8_put, .selects RX8 yX8_put yX8_put, .initialized RX8, .code yX8_put cX8_put 2 none, .fieldLink RX8 52 "LimitTokensModel" "tape" "[I", .fieldLink RX8 227 "LimitTokensModel" "tapeSize" "I"] ++ wsX80)
def wsX8_write_r1 : List Cond := [Cond.fieldLink RX8 112 "LimitTokensModel" "thrown" "I", Cond.fieldLink RX8 227 "LimitTokensModel" "tapeSize" "I", Cond.fieldLink RX8 66 "LimitTokensModel" "name" "[I", Cond.fieldLink RX8 63 "LimitTokensModel" "nameSize" "[I", Cond.fieldLink RX8 69 "LimitTokensModel" "limits" "[I", Cond.fieldLink RX8 75 "LimitTokensModel" "text" "[I", Cond.fieldLink RX8 72 "LimitTokensModel" "textSize" "[I", Cond.fieldLink RX8 78 "LimitTokensModel" "isOthers" "[Z", Cond.fieldLink RX8 81 "LimitTokensModel" "lock" "[I", Cond.fieldLink RX8 84 "LimitTokensModel" "sign" "[I", Cond.methodLink RX8 175 yX8_isToken, Cond.instanceMethod yX8_isToken, Cond.selects RX8 yX8_isToken yX8_isToken, Cond.initialized RX8, Cond.code yX8_isToken cX8_isToken 2 (some .boolean), Cond.fieldLink RX8 59 "LimitTokensModel" "there" "[Z", Cond.methodLink RX8 157 yX8_is, Cond.static yX8_is, Cond.code yX8_is cX8_is 1 (some .boolean), Cond.methodLink RX8 153 yX8_within, Cond.static yX8_within, Cond.code yX8_within cX8_within 3 (some .boolean), Cond.methodLink RX8 230 yX8_put, Cond.instanceMethod yX8_put]
def wsX8_write_r2 : List Cond := [Cond.selects RX8 yX8_put yX8_put, Cond.code yX8_put cX8_put 2 none, Cond.fieldLink RX8 52 "LimitTokensModel" "tape" "[I", Cond.methodLink RX8 233 yX8_putRow, Cond.instanceMethod yX8_putRow, Cond.selects RX8 yX8_putRow yX8_putRow, Cond.code yX8_putRow cX8_putRow 6 none]
def wsX8_write : List Cond := .code yX8_write cX8_write 4 (some .int) :: ((wsX8_write_r1 ++ wsX8_write_r2) ++ wsX80)
def wsX8_type : List Cond := .code yX8_type cX8_type 5 (some .int) :: ([.fieldLink RX8 112 "LimitTokensModel" "thrown" "I", .fieldLink RX8 227 "LimitTokensModel" "tapeSize" "I", .constantLong RX8 161 (255), .methodLink RX8 153 yX8_within, .static yX8_within, .initialized RX8, .code yX8_within cX8_within 3 (some .boolean), .methodLink RX8 230 yX8_put, .instanceMethod yX8_put, .selects RX8 yX8_put yX8_put, .code yX8_put cX8_put 2 none, .fieldLink RX8 52 "LimitTokensModel" "tape" "[I"] ++ wsX80)
def wsX8_tape : List Cond := .code yX8_tape cX8_tape 2 (some .int) :: ([.fieldLink RX8 112 "LimitTokensModel" "thrown" "I", .fieldLink RX8 227 "LimitTokensModel" "tapeSize" "I", .fieldLink RX8 52 "LimitTokensModel" "tape" "[I", .methodLink RX8 153 yX8_within, .static yX8_within, .initialized RX8, .code yX8_within cX8_within 3 (some .boolean)] ++ wsX80)
def wsX8_cut : List Cond := .code yX8_cut cX8_cut 3 (some .int) :: ([.fieldLink RX8 112 "LimitTokensModel" "thrown" "I", .fieldLink RX8 227 "LimitTokensModel" "tapeSize" "I", .methodLink RX8 153 yX8_within, .static yX8_within, .initialized RX8, .code yX8_within cX8_within 3 (some .boolean)] ++ wsX80)
def wsX8_forge : List Cond := .code yX8_forge cX8_forge 3 (some .int) :: ([.fieldLink RX8 112 "LimitTokensModel" "thrown" "I", .fieldLink RX8 227 "LimitTokensModel" "tapeSize" "I", .fieldLink RX8 52 "LimitTokensModel" "tape" "[I", .methodLink RX8 153 yX8_within, .static yX8_within, .initialized RX8, .code yX8_within cX8_within 3 (some .boolean)] ++ wsX80)
def wsX8_wrong : List Cond := .code yX8_wrong cX8_wrong 3 none :: ([.fieldLink RX8 237 "LimitTokensModel" "readFault" "I", .fieldLink RX8 55 "LimitTokensModel" "place" "I"] ++ wsX80)
def wsX8_next : List Cond := .code yX8_next cX8_next 1 (some .int) :: ([.fieldLink RX8 237 "LimitTokensModel" "readFault" "I", .fieldLink RX8 240 "LimitTokensModel" "readAt" "I", .fieldLink RX8 227 "LimitTokensModel" "tapeSize" "I", .fieldLink RX8 52 "LimitTokensModel" "tape" "[I", .methodLink RX8 243 yX8_wrong, .instanceMethod yX8_wrong, .selects RX8 yX8_wrong yX8_wrong, .initialized RX8, .code yX8_wrong cX8_wrong 3 none, .fieldLink RX8 55 "LimitTokensModel" "place" "I"] ++ wsX80)
def wsX8_want : List Cond := .code yX8_want cX8_want 3 none :: ([.fieldLink RX8 237 "LimitTokensModel" "readFault" "I", .fieldLink RX8 240 "LimitTokensModel" "readAt" "I", .methodLink RX8 246 yX8_next, .instanceMethod yX8_next, .selects RX8 yX8_next yX8_next, .initialized RX8, .code yX8_next cX8_next 1 (some .int), .fieldLink RX8 227 "LimitTokensModel" "tapeSize" "I", .fieldLink RX8 52 "LimitTokensModel" "tape" "[I", .methodLink RX8 243 yX8_wrong, .instanceMethod yX8_wrong, .selects RX8 yX8_wrong yX8_wrong, .code yX8_wrong cX8_wrong 3 none, .fieldLink RX8 55 "LimitTokensModel" "place" "I"] ++ wsX80)
def wsX8_readRow : List Cond := .code yX8_readRow cX8_readRow 7 (some .int) :: ([.fieldLink RX8 237 "LimitTokensModel" "readFault" "I", .fieldLink RX8 240 "LimitTokensModel" "readAt" "I", .methodLink RX8 246 yX8_next, .instanceMethod yX8_next, .selects RX8 yX8_next yX8_next, .initialized RX8, .code yX8_next cX8_next 1 (some .int), .fieldLink RX8 227 "LimitTokensModel" "tapeSize" "I", .fieldLink RX8 52 "LimitTokensModel" "tape" "[I", .methodLink RX8 243 yX8_wrong, .instanceMethod yX8_wrong, .selects RX8 yX8_wrong yX8_wrong, .code yX8_wrong cX8_wrong 3 none, .fieldLink RX8 55 "LimitTokensModel" "place" "I", .methodLink RX8 153 yX8_within, .static yX8_within, .code yX8_within cX8_within 3 (some .boolean)] ++ wsX80)
def wsX8_readLimit_r1 : List Cond := [Cond.fieldLink RX8 69 "LimitTokensModel" "limits" "[I", Cond.fieldLink RX8 72 "LimitTokensModel" "textSize" "[I", Cond.fieldLink RX8 75 "LimitTokensModel" "text" "[I", Cond.fieldLink RX8 237 "LimitTokensModel" "readFault" "I", Cond.fieldLink RX8 240 "LimitTokensModel" "readAt" "I", Cond.fieldLink RX8 78 "LimitTokensModel" "isOthers" "[Z", Cond.fieldLink RX8 81 "LimitTokensModel" "lock" "[I", Cond.methodLink RX8 250 yX8_readRow, Cond.instanceMethod yX8_readRow, Cond.selects RX8 yX8_readRow yX8_readRow, Cond.initialized RX8, Cond.code yX8_readRow cX8_readRow 7 (some .int), Cond.methodLink RX8 246 yX8_next, Cond.instanceMethod yX8_next, Cond.selects RX8 yX8_next yX8_next, Cond.code yX8_next cX8_next 1 (some .int), Cond.fieldLink RX8 227 "LimitTokensModel" "tapeSize" "I", Cond.fieldLink RX8 52 "LimitTokensModel" "tape" "[I", Cond.methodLink RX8 243 yX8_wrong, Cond.instanceMethod yX8_wrong, Cond.selects RX8 yX8_wrong yX8_wrong, Cond.code yX8_wrong cX8_wrong 3 none, Cond.fieldLink RX8 55 "LimitTokensModel" "place" "I", Cond.methodLink RX8 153 yX8_within]
def wsX8_readLimit_r2 : List Cond := [Cond.static yX8_within, Cond.code yX8_within cX8_within 3 (some .boolean), Cond.methodLink RX8 254 yX8_want, Cond.instanceMethod yX8_want, Cond.selects RX8 yX8_want yX8_want, Cond.code yX8_want cX8_want 3 none]
def wsX8_readLimit : List Cond := .code yX8_readLimit cX8_readLimit 4 none :: ((wsX8_readLimit_r1 ++ wsX8_readLimit_r2) ++ wsX80)
def wsX8_read_r1 : List Cond := [Cond.fieldLink RX8 112 "LimitTokensModel" "thrown" "I", Cond.fieldLink RX8 240 "LimitTokensModel" "readAt" "I", Cond.fieldLink RX8 237 "LimitTokensModel" "readFault" "I", Cond.fieldLink RX8 55 "LimitTokensModel" "place" "I", Cond.fieldLink RX8 69 "LimitTokensModel" "limits" "[I", Cond.fieldLink RX8 63 "LimitTokensModel" "nameSize" "[I", Cond.fieldLink RX8 66 "LimitTokensModel" "name" "[I", Cond.fieldLink RX8 84 "LimitTokensModel" "sign" "[I", Cond.fieldLink RX8 227 "LimitTokensModel" "tapeSize" "I", Cond.methodLink RX8 157 yX8_is, Cond.static yX8_is, Cond.initialized RX8, Cond.code yX8_is cX8_is 1 (some .boolean), Cond.methodLink RX8 153 yX8_within, Cond.static yX8_within, Cond.code yX8_within cX8_within 3 (some .boolean), Cond.methodLink RX8 254 yX8_want, Cond.instanceMethod yX8_want, Cond.selects RX8 yX8_want yX8_want, Cond.code yX8_want cX8_want 3 none, Cond.methodLink RX8 246 yX8_next, Cond.instanceMethod yX8_next, Cond.selects RX8 yX8_next yX8_next, Cond.code yX8_next cX8_next 1 (some .int)]
def wsX8_read_r2 : List Cond := [Cond.fieldLink RX8 52 "LimitTokensModel" "tape" "[I", Cond.methodLink RX8 243 yX8_wrong, Cond.instanceMethod yX8_wrong, Cond.selects RX8 yX8_wrong yX8_wrong, Cond.code yX8_wrong cX8_wrong 3 none, Cond.methodLink RX8 250 yX8_readRow, Cond.instanceMethod yX8_readRow, Cond.selects RX8 yX8_readRow yX8_readRow, Cond.code yX8_readRow cX8_readRow 7 (some .int), Cond.methodLink RX8 257 yX8_readLimit, Cond.instanceMethod yX8_readLimit, Cond.selects RX8 yX8_readLimit yX8_readLimit, Cond.code yX8_readLimit cX8_readLimit 4 none, Cond.fieldLink RX8 72 "LimitTokensModel" "textSize" "[I", Cond.fieldLink RX8 75 "LimitTokensModel" "text" "[I", Cond.fieldLink RX8 78 "LimitTokensModel" "isOthers" "[Z", Cond.fieldLink RX8 81 "LimitTokensModel" "lock" "[I", Cond.methodLink RX8 183 yX8_copyToken, Cond.instanceMethod yX8_copyToken, Cond.selects RX8 yX8_copyToken yX8_copyToken, Cond.code yX8_copyToken cX8_copyToken 4 none, Cond.fieldLink RX8 59 "LimitTokensModel" "there" "[Z"]
def wsX8_read : List Cond := .code yX8_read cX8_read 4 (some .int) :: ((wsX8_read_r1 ++ wsX8_read_r2) ++ wsX80)
def wsX8_place_ : List Cond := .code yX8_place_ cX8_place_ 1 (some .int) :: ([.fieldLink RX8 112 "LimitTokensModel" "thrown" "I", .fieldLink RX8 55 "LimitTokensModel" "place" "I"] ++ wsX80)
def wsJ9_max_7cf53 : List Cond := .code yJ9_max_7cf53 cJ9_max_7cf53 2 (some .int) :: ([])
def wsL_law_r1 : List Cond := [Cond.classLink RL 7 RX7, Cond.instantiable RX7 9, Cond.initialized RX7, Cond.classLink RL 10 RX8, Cond.instantiable RX8 42, Cond.initialized RX8, Cond.constantLong RL 13 (4294967295), Cond.methodLink RL 9 yX7_init, Cond.instanceMethod yX7_init, Cond.code yX7_init cX7_init 2 none, Cond.methodLink RX7 1 objectInit, Cond.instanceMethod objectInit, Cond.code objectInit ⟨#[0xb1]⟩ 1 none, Cond.classLink RX7 9 RX3, Cond.fieldLink RX7 11 "LimitTokens" "registers" "[LLimitTokens$Row;", Cond.classLink RX7 15 RX2, Cond.instantiable RX2 11, Cond.initialized RX2, Cond.fieldLink RX7 18 "LimitTokens" "prover" "LLimitTokens$Prover;", Cond.classLink RX7 22 RX5, Cond.instantiable RX5 4, Cond.initialized RX5, Cond.fieldLink RX7 25 "LimitTokens" "reader" "LLimitTokens$TapeReader;", Cond.classLink RX7 29 RX6]
def wsL_law_r2 : List Cond := [Cond.instantiable RX6 5, Cond.initialized RX6, Cond.fieldLink RX7 32 "LimitTokens" "spare" "LLimitTokens$Token;", Cond.fieldLink RX7 36 "LimitTokens$Prover" "tokens" "[LLimitTokens$Token;", Cond.fieldLink RX7 40 "LimitTokens" "tokens" "[LLimitTokens$Token;", Cond.fieldLink RX7 41 "LimitTokens$Prover" "sealer" "LLimitTokens$Sealer;", Cond.fieldLink RX7 45 "LimitTokens" "sealer" "LLimitTokens$Sealer;", Cond.fieldLink RX7 46 "LimitTokens$Prover" "judge" "LLimitTokens$Judge;", Cond.fieldLink RX7 50 "LimitTokens" "judge" "LLimitTokens$Judge;", Cond.fieldLink RX7 51 "LimitTokens$Judge" "request" "[I", Cond.fieldLink RX7 57 "LimitTokens" "request" "[I", Cond.fieldLink RX7 58 "LimitTokens$TapeReader" "source" "LLimitTokens$Row;", Cond.fieldLink RX7 62 "LimitTokens" "tape" "LLimitTokens$Row;", Cond.instantiable RX3 2, Cond.initialized RX3, Cond.methodLink RX7 17 yX2_init, Cond.instanceMethod yX2_init, Cond.code yX2_init cX2_init 2 none, Cond.methodLink RX2 3 objectInit, Cond.classLink RX2 9 RX6, Cond.fieldLink RX2 11 "LimitTokens$Prover" "tokens" "[LLimitTokens$Token;", Cond.classLink RX2 17 RX4, Cond.instantiable RX4 9, Cond.initialized RX4]
def wsL_law_r3 : List Cond := [Cond.fieldLink RX2 20 "LimitTokens$Prover" "sealer" "LLimitTokens$Sealer;", Cond.classLink RX2 24 RX0, Cond.instantiable RX0 2, Cond.initialized RX0, Cond.fieldLink RX2 27 "LimitTokens$Prover" "judge" "LLimitTokens$Judge;", Cond.classLink RX2 31 RX3, Cond.fieldLink RX2 33 "LimitTokens$Prover" "signs" "[LLimitTokens$Row;", Cond.fieldLink RX2 37 "LimitTokens$Prover" "keys" "[LLimitTokens$Row;", Cond.fieldLink RX2 40 "LimitTokens$Prover" "foundToken" "I", Cond.fieldLink RX2 44 "LimitTokens$Prover" "foundLimit" "I", Cond.fieldLink RX2 47 "LimitTokens$Prover" "begun" "I", Cond.methodLink RX2 19 yX4_init, Cond.instanceMethod yX4_init, Cond.code yX4_init cX4_init 1 none, Cond.methodLink RX4 5 objectInit, Cond.arrayClass .int, Cond.fieldLink RX4 11 "LimitTokens$Sealer" "state" "[I", Cond.fieldLink RX4 15 "LimitTokens$Sealer" "words" "[I", Cond.classLink RX4 18 RX3, Cond.fieldLink RX4 23 "LimitTokens$Sealer" "work" "LLimitTokens$Row;", Cond.fieldLink RX4 27 "LimitTokens$Sealer" "keyBlock" "LLimitTokens$Row;", Cond.fieldLink RX4 30 "LimitTokens$Sealer" "inner" "LLimitTokens$Row;", Cond.fieldLink RX4 33 "LimitTokens$Sealer" "pair" "LLimitTokens$Row;", Cond.fieldLink RX4 36 "LimitTokens$Sealer" "textSeal" "LLimitTokens$Row;"]
def wsL_law_r4 : List Cond := [Cond.fieldLink RX4 39 "LimitTokens$Sealer" "lockSeal" "LLimitTokens$Row;", Cond.fieldLink RX4 42 "LimitTokens$Sealer" "zeroKey" "LLimitTokens$Row;", Cond.methodLink RX4 20 yX3_init, Cond.instanceMethod yX3_init, Cond.code yX3_init cX3_init 2 none, Cond.methodLink RX3 3 objectInit, Cond.methodLink RX3 9 Lib.Math.max.name, Cond.static Lib.Math.max.name, Cond.initialized "java/lang/Math", Cond.code Lib.Math.max.name Lib.Math.max.code 2 (some .int), Cond.fieldLink RX3 15 "LimitTokens$Row" "bytes" "[I", Cond.methodLink RX4 45 yX3_pushZeros, Cond.instanceMethod yX3_pushZeros, Cond.selects RX3 yX3_pushZeros yX3_pushZeros, Cond.code yX3_pushZeros cX3_pushZeros 3 none, Cond.fieldLink RX3 21 "LimitTokens$Row" "length" "I", Cond.instanceMethod yX0_init, Cond.code yX0_init cX0_init 1 none, Cond.methodLink RX0 3 objectInit, Cond.fieldLink RX0 9 "LimitTokens$Judge" "request" "[I", Cond.methodLink RX2 50 yX6_init, Cond.instanceMethod yX6_init, Cond.code yX6_init cX6_init 2 none, Cond.methodLink RX6 3 objectInit]
def wsL_law_r5 : List Cond := [Cond.classLink RX6 9 RX3, Cond.fieldLink RX6 14 "LimitTokens$Token" "name" "LLimitTokens$Row;", Cond.fieldLink RX6 20 "LimitTokens$Token" "sign" "LLimitTokens$Row;", Cond.classLink RX6 23 RX1, Cond.fieldLink RX6 25 "LimitTokens$Token" "limits" "[LLimitTokens$Limit;", Cond.instantiable RX1 2, Cond.initialized RX1, Cond.methodLink RX6 11 yX3_init, Cond.instanceMethod yX1_init, Cond.code yX1_init cX1_init 1 none, Cond.methodLink RX1 3 objectInit, Cond.classLink RX1 9 RX3, Cond.fieldLink RX1 14 "LimitTokens$Limit" "text" "LLimitTokens$Row;", Cond.fieldLink RX1 20 "LimitTokens$Limit" "lock" "LLimitTokens$Row;", Cond.methodLink RX1 11 yX3_init, Cond.methodLink RX2 51 yX3_init, Cond.instanceMethod yX5_init, Cond.code yX5_init cX5_init 1 none, Cond.methodLink RX5 3 objectInit, Cond.classLink RX5 9 RX3, Cond.fieldLink RX5 14 "LimitTokens$TapeReader" "source" "LLimitTokens$Row;", Cond.fieldLink RX5 20 "LimitTokens$TapeReader" "foundPlace" "I", Cond.methodLink RX5 11 yX3_init, Cond.methodLink RX7 31 yX6_init]
def wsL_law_r6 : List Cond := [Cond.methodLink RX7 65 yX3_init, Cond.methodLink RL 12 yX8_init, Cond.instanceMethod yX8_init, Cond.code yX8_init cX8_init 5 none, Cond.methodLink RX8 1 objectInit, Cond.fieldLink RX8 7 "LimitTokensModel" "starts" "[I", Cond.fieldLink RX8 13 "LimitTokensModel" "adds" "[I", Cond.fieldLink RX8 16 "LimitTokensModel" "h" "[I", Cond.fieldLink RX8 19 "LimitTokensModel" "w" "[I", Cond.fieldLink RX8 22 "LimitTokensModel" "v" "[I", Cond.fieldLink RX8 25 "LimitTokensModel" "in" "[I", Cond.fieldLink RX8 28 "LimitTokensModel" "hashed" "[I", Cond.fieldLink RX8 31 "LimitTokensModel" "key" "[I", Cond.fieldLink RX8 34 "LimitTokensModel" "message" "[I", Cond.fieldLink RX8 37 "LimitTokensModel" "out" "[I", Cond.fieldLink RX8 40 "LimitTokensModel" "kept" "[I", Cond.fieldLink RX8 43 "LimitTokensModel" "zeros" "[I", Cond.fieldLink RX8 46 "LimitTokensModel" "register" "[I", Cond.fieldLink RX8 49 "LimitTokensModel" "registerSize" "[I", Cond.fieldLink RX8 52 "LimitTokensModel" "tape" "[I", Cond.fieldLink RX8 55 "LimitTokensModel" "place" "I", Cond.arrayClass .boolean, Cond.fieldLink RX8 59 "LimitTokensModel" "there" "[Z", Cond.fieldLink RX8 63 "LimitTokensModel" "nameSize" "[I"]
def wsL_law_r7 : List Cond := [Cond.fieldLink RX8 66 "LimitTokensModel" "name" "[I", Cond.fieldLink RX8 69 "LimitTokensModel" "limits" "[I", Cond.fieldLink RX8 72 "LimitTokensModel" "textSize" "[I", Cond.fieldLink RX8 75 "LimitTokensModel" "text" "[I", Cond.fieldLink RX8 78 "LimitTokensModel" "isOthers" "[Z", Cond.fieldLink RX8 81 "LimitTokensModel" "lock" "[I", Cond.fieldLink RX8 84 "LimitTokensModel" "sign" "[I", Cond.fieldLink RX8 87 "LimitTokensModel" "asked" "[I", Cond.fieldLink RX8 90 "LimitTokensModel" "walker" "[I", Cond.fieldLink RX8 93 "LimitTokensModel" "step" "[I", Cond.fieldLink RX8 96 "LimitTokensModel" "pile" "[I", Cond.fieldLink RX8 99 "LimitTokensModel" "walked" "[Z", Cond.fieldLink RX8 102 "LimitTokensModel" "faultToken" "I", Cond.fieldLink RX8 105 "LimitTokensModel" "faultLimit" "I", Cond.methodLink RX8 108 yX8_root, Cond.static yX8_root, Cond.code yX8_root cX8_root 7 (some .int), Cond.constantLong RX8 119 (4294967295), Cond.methodLink RX8 115 yX8_isUnder, Cond.static yX8_isUnder, Cond.code yX8_isUnder cX8_isUnder 36 (some .boolean), Cond.constantLong RX8 121 (2), Cond.methodLink RL 15 yX7_add, Cond.instanceMethod yX7_add]
def wsL_law_r8 : List Cond := [Cond.selects RX7 yX7_add yX7_add, Cond.code yX7_add cX7_add 5 (some .int), Cond.methodLink RX7 68 yX7_isRegister, Cond.static yX7_isRegister, Cond.code yX7_isRegister cX7_isRegister 1 (some .boolean), Cond.methodLink RX7 72 yX7_isWidth, Cond.static yX7_isWidth, Cond.code yX7_isWidth cX7_isWidth 1 (some .boolean), Cond.methodLink RX7 75 yX7_pushLowest, Cond.static yX7_pushLowest, Cond.code yX7_pushLowest cX7_pushLowest 5 (some .int), Cond.fieldLink RX7 79 "LimitTokens$Row" "length" "I", Cond.methodLink RX7 214 yX3_hasRoomFor, Cond.instanceMethod yX3_hasRoomFor, Cond.selects RX3 yX3_hasRoomFor yX3_hasRoomFor, Cond.code yX3_hasRoomFor cX3_hasRoomFor 2 (some .boolean), Cond.methodLink RX7 217 yX3_push, Cond.instanceMethod yX3_push, Cond.selects RX3 yX3_push yX3_push, Cond.code yX3_push cX3_push 2 none, Cond.methodLink RL 19 yX8_add_, Cond.instanceMethod yX8_add_, Cond.selects RX8 yX8_add_ yX8_add_, Cond.code yX8_add_ cX8_add_ 6 (some .int)]
def wsL_law_r9 : List Cond := [Cond.fieldLink RX8 112 "LimitTokensModel" "thrown" "I", Cond.constantLong RX8 161 (255), Cond.methodLink RX8 157 yX8_is, Cond.static yX8_is, Cond.code yX8_is cX8_is 1 (some .boolean), Cond.methodLink RX8 153 yX8_within, Cond.static yX8_within, Cond.code yX8_within cX8_within 3 (some .boolean), Cond.methodLink RL 20 yX7_clear, Cond.instanceMethod yX7_clear, Cond.selects RX7 yX7_clear yX7_clear, Cond.code yX7_clear cX7_clear 3 (some .int), Cond.methodLink RX7 83 yX3_makeEmpty, Cond.instanceMethod yX3_makeEmpty, Cond.selects RX3 yX3_makeEmpty yX3_makeEmpty, Cond.code yX3_makeEmpty cX3_makeEmpty 1 none, Cond.methodLink RL 24 yX8_clear, Cond.instanceMethod yX8_clear, Cond.selects RX8 yX8_clear yX8_clear, Cond.code yX8_clear cX8_clear 3 (some .int), Cond.methodLink RL 25 yX7_at, Cond.instanceMethod yX7_at, Cond.selects RX7 yX7_at yX7_at, Cond.code yX7_at cX7_at 3 (some .int)]
def wsL_law_r10 : List Cond := [Cond.methodLink RX7 86 yX3_byteAt, Cond.instanceMethod yX3_byteAt, Cond.selects RX3 yX3_byteAt yX3_byteAt, Cond.code yX3_byteAt cX3_byteAt 2 (some .int), Cond.methodLink RL 29 yX8_at, Cond.instanceMethod yX8_at, Cond.selects RX8 yX8_at yX8_at, Cond.code yX8_at cX8_at 3 (some .int), Cond.methodLink RL 30 yX7_hash, Cond.instanceMethod yX7_hash, Cond.selects RX7 yX7_hash yX7_hash, Cond.code yX7_hash cX7_hash 3 (some .int), Cond.methodLink RX7 90 yX4_hashInto, Cond.instanceMethod yX4_hashInto, Cond.selects RX4 yX4_hashInto yX4_hashInto, Cond.code yX4_hashInto cX4_hashInto 3 none, Cond.methodLink RX4 48 yX3_takeOver, Cond.instanceMethod yX3_takeOver, Cond.selects RX3 yX3_takeOver yX3_takeOver, Cond.code yX3_takeOver cX3_takeOver 2 none, Cond.methodLink RX3 25 yX3_pushPart, Cond.instanceMethod yX3_pushPart, Cond.selects RX3 yX3_pushPart yX3_pushPart, Cond.code yX3_pushPart cX3_pushPart 4 none]
def wsL_law_r11 : List Cond := [Cond.methodLink RX3 29 arraycopyName, Cond.native arraycopyName, Cond.static arraycopyName, Cond.initialized "java/lang/System", Cond.methodLink RX4 52 yX4_hashWork, Cond.instanceMethod yX4_hashWork, Cond.selects RX4 yX4_hashWork yX4_hashWork, Cond.code yX4_hashWork cX4_hashWork 4 none, Cond.fieldLink RX4 55 "LimitTokens$Row" "length" "I", Cond.fieldLink RX4 94 "LimitTokens$Sealer" "SQUARE_ROOTS" "[I", Cond.methodLink RX4 97 arraycopyName, Cond.methodLink RX4 88 yX3_push, Cond.methodLink RX4 91 yX3_pushWord, Cond.instanceMethod yX3_pushWord, Cond.selects RX3 yX3_pushWord yX3_pushWord, Cond.code yX3_pushWord cX3_pushWord 2 none, Cond.methodLink RX4 103 yX4_spreadWords, Cond.instanceMethod yX4_spreadWords, Cond.selects RX4 yX4_spreadWords yX4_spreadWords, Cond.code yX4_spreadWords cX4_spreadWords 6 none, Cond.fieldLink RX4 112 "LimitTokens$Row" "bytes" "[I", Cond.methodLink RX4 106 yX4_mixWords, Cond.instanceMethod yX4_mixWords, Cond.selects RX4 yX4_mixWords yX4_mixWords]
def wsL_law_r12 : List Cond := [Cond.code yX4_mixWords cX4_mixWords 12 none, Cond.fieldLink RX4 109 "LimitTokens$Sealer" "CUBE_ROOTS" "[I", Cond.methodLink RX4 85 yX3_makeEmpty, Cond.methodLink RL 33 yX8_hash, Cond.instanceMethod yX8_hash, Cond.selects RX8 yX8_hash yX8_hash, Cond.code yX8_hash cX8_hash 3 (some .int), Cond.fieldLink RX8 126 "LimitTokensModel" "inSize" "I", Cond.methodLink RX8 138 yX8_take, Cond.instanceMethod yX8_take, Cond.selects RX8 yX8_take yX8_take, Cond.code yX8_take cX8_take 5 none, Cond.methodLink RX8 142 yX8_hashNow, Cond.instanceMethod yX8_hashNow, Cond.selects RX8 yX8_hashNow yX8_hashNow, Cond.code yX8_hashNow cX8_hashNow 5 none, Cond.methodLink RX8 129 yX8_mix, Cond.instanceMethod yX8_mix, Cond.selects RX8 yX8_mix yX8_mix, Cond.code yX8_mix cX8_mix 7 none, Cond.methodLink RX8 123 yX8_turned, Cond.static yX8_turned, Cond.code yX8_turned cX8_turned 2 (some .int), Cond.methodLink RX8 149 yX8_copyTo]
def wsL_law_r13 : List Cond := [Cond.static yX8_copyTo, Cond.code yX8_copyTo cX8_copyTo 4 none, Cond.methodLink RL 34 yX7_seal, Cond.instanceMethod yX7_seal, Cond.selects RX7 yX7_seal yX7_seal, Cond.code yX7_seal cX7_seal 4 (some .int), Cond.methodLink RX7 96 yX4_sealInto, Cond.instanceMethod yX4_sealInto, Cond.selects RX4 yX4_sealInto yX4_sealInto, Cond.code yX4_sealInto cX4_sealInto 4 none, Cond.methodLink RX4 59 yX4_startWork, Cond.instanceMethod yX4_startWork, Cond.selects RX4 yX4_startWork yX4_startWork, Cond.code yX4_startWork cX4_startWork 3 none, Cond.methodLink RX4 77 yX3_byteAt, Cond.methodLink RX4 62 yX3_pushAll, Cond.instanceMethod yX3_pushAll, Cond.selects RX3 yX3_pushAll yX3_pushAll, Cond.code yX3_pushAll cX3_pushAll 2 none, Cond.methodLink RL 38 yX8_seal, Cond.instanceMethod yX8_seal, Cond.selects RX8 yX8_seal yX8_seal, Cond.code yX8_seal cX8_seal 4 (some .int), Cond.methodLink RX8 163 yX8_keyIs]
def wsL_law_r14 : List Cond := [Cond.instanceMethod yX8_keyIs, Cond.selects RX8 yX8_keyIs yX8_keyIs, Cond.code yX8_keyIs cX8_keyIs 5 none, Cond.fieldLink RX8 132 "LimitTokensModel" "keySize" "I", Cond.fieldLink RX8 135 "LimitTokensModel" "messageSize" "I", Cond.methodLink RX8 166 yX8_add, Cond.instanceMethod yX8_add, Cond.selects RX8 yX8_add yX8_add, Cond.code yX8_add cX8_add 5 none, Cond.methodLink RX8 169 yX8_sealNow, Cond.instanceMethod yX8_sealNow, Cond.selects RX8 yX8_sealNow yX8_sealNow, Cond.code yX8_sealNow cX8_sealNow 2 none, Cond.methodLink RX8 145 yX8_keyed, Cond.instanceMethod yX8_keyed, Cond.selects RX8 yX8_keyed yX8_keyed, Cond.code yX8_keyed cX8_keyed 3 none, Cond.methodLink RL 39 yX7_make, Cond.instanceMethod yX7_make, Cond.selects RX7 yX7_make yX7_make, Cond.code yX7_make cX7_make 5 (some .int), Cond.fieldLink RX7 106 "LimitTokens$Token" "there" "Z", Cond.fieldLink RX7 110 "LimitTokens$Token" "count" "I", Cond.fieldLink RX7 113 "LimitTokens$Token" "name" "LLimitTokens$Row;"]
def wsL_law_r15 : List Cond := [Cond.fieldLink RX7 120 "LimitTokens$Token" "sign" "LLimitTokens$Row;", Cond.methodLink RX7 100 yX7_isTokenNumber, Cond.static yX7_isTokenNumber, Cond.code yX7_isTokenNumber cX7_isTokenNumber 1 (some .boolean), Cond.methodLink RX7 103 yX7_isWordingLength, Cond.static yX7_isWordingLength, Cond.code yX7_isWordingLength cX7_isWordingLength 1 (some .boolean), Cond.methodLink RX7 116 yX3_takeOver, Cond.methodLink RL 42 yX8_make, Cond.instanceMethod yX8_make, Cond.selects RX8 yX8_make yX8_make, Cond.code yX8_make cX8_make 5 (some .int), Cond.methodLink RX8 172 yX8_isText, Cond.instanceMethod yX8_isText, Cond.selects RX8 yX8_isText yX8_isText, Cond.code yX8_isText cX8_isText 2 (some .boolean), Cond.methodLink RL 43 yX7_limit, Cond.instanceMethod yX7_limit, Cond.selects RX7 yX7_limit yX7_limit, Cond.code yX7_limit cX7_limit 5 (some .int), Cond.fieldLink RX7 130 "LimitTokens$Token" "limits" "[LLimitTokens$Limit;", Cond.fieldLink RX7 134 "LimitTokens$Limit" "text" "LLimitTokens$Row;", Cond.fieldLink RX7 139 "LimitTokens$Limit" "lock" "LLimitTokens$Row;", Cond.methodLink RX7 123 yX7_isThere]
def wsL_law_r16 : List Cond := [Cond.instanceMethod yX7_isThere, Cond.selects RX7 yX7_isThere yX7_isThere, Cond.code yX7_isThere cX7_isThere 2 (some .boolean), Cond.methodLink RX7 126 yX6_isFull, Cond.instanceMethod yX6_isFull, Cond.selects RX6 yX6_isFull yX6_isFull, Cond.code yX6_isFull cX6_isFull 1 (some .boolean), Cond.fieldLink RX6 30 "LimitTokens$Token" "count" "I", Cond.methodLink RX7 142 yX4_goOnOwn, Cond.instanceMethod yX4_goOnOwn, Cond.selects RX4 yX4_goOnOwn yX4_goOnOwn, Cond.code yX4_goOnOwn cX4_goOnOwn 3 none, Cond.fieldLink RX4 65 "LimitTokens$Limit" "text" "LLimitTokens$Row;", Cond.methodLink RX4 70 yX4_sealInto, Cond.methodLink RL 46 yX8_limit, Cond.instanceMethod yX8_limit, Cond.selects RX8 yX8_limit yX8_limit, Cond.code yX8_limit cX8_limit 4 (some .int), Cond.methodLink RX8 175 yX8_isToken, Cond.instanceMethod yX8_isToken, Cond.selects RX8 yX8_isToken yX8_isToken, Cond.code yX8_isToken cX8_isToken 2 (some .boolean), Cond.methodLink RX8 178 yX8_place, Cond.instanceMethod yX8_place]
def wsL_law_r17 : List Cond := [Cond.selects RX8 yX8_place yX8_place, Cond.code yX8_place cX8_place 5 (some .int), Cond.methodLink RX8 180 yX8_goOn, Cond.instanceMethod yX8_goOn, Cond.selects RX8 yX8_goOn yX8_goOn, Cond.code yX8_goOn cX8_goOn 4 none, Cond.methodLink RL 47 yX7_others, Cond.instanceMethod yX7_others, Cond.selects RX7 yX7_others yX7_others, Cond.code yX7_others cX7_others 6 (some .int), Cond.methodLink RX7 146 yX4_turnKey, Cond.instanceMethod yX4_turnKey, Cond.selects RX4 yX4_turnKey yX4_turnKey, Cond.code yX4_turnKey cX4_turnKey 6 none, Cond.methodLink RX4 81 yX3_flip, Cond.instanceMethod yX3_flip, Cond.selects RX3 yX3_flip yX3_flip, Cond.code yX3_flip cX3_flip 3 (some .int), Cond.methodLink RX3 35 yX3_has, Cond.instanceMethod yX3_has, Cond.selects RX3 yX3_has yX3_has, Cond.code yX3_has cX3_has 2 (some .boolean), Cond.methodLink RX7 150 yX4_goOnOthers, Cond.instanceMethod yX4_goOnOthers]
def wsL_law_r18 : List Cond := [Cond.selects RX4 yX4_goOnOthers yX4_goOnOthers, Cond.code yX4_goOnOthers cX4_goOnOthers 3 none, Cond.fieldLink RX4 74 "LimitTokens$Limit" "lock" "LLimitTokens$Row;", Cond.methodLink RL 50 yX8_others, Cond.instanceMethod yX8_others, Cond.selects RX8 yX8_others yX8_others, Cond.code yX8_others cX8_others 6 (some .int), Cond.methodLink RL 51 yX7_bind, Cond.instanceMethod yX7_bind, Cond.selects RX7 yX7_bind yX7_bind, Cond.code yX7_bind cX7_bind 3 (some .int), Cond.methodLink RX7 153 yX4_bindSign, Cond.instanceMethod yX4_bindSign, Cond.selects RX4 yX4_bindSign yX4_bindSign, Cond.code yX4_bindSign cX4_bindSign 3 none, Cond.methodLink RL 54 yX8_bind, Cond.instanceMethod yX8_bind, Cond.selects RX8 yX8_bind yX8_bind, Cond.code yX8_bind cX8_bind 3 (some .int), Cond.methodLink RL 55 yX7_copy, Cond.instanceMethod yX7_copy, Cond.selects RX7 yX7_copy yX7_copy, Cond.code yX7_copy cX7_copy 3 (some .int), Cond.methodLink RX7 156 yX6_takeOver]
def wsL_law_r19 : List Cond := [Cond.instanceMethod yX6_takeOver, Cond.selects RX6 yX6_takeOver yX6_takeOver, Cond.code yX6_takeOver cX6_takeOver 3 none, Cond.fieldLink RX6 51 "LimitTokens$Token" "there" "Z", Cond.methodLink RX6 44 yX3_takeOver, Cond.methodLink RX6 48 yX1_takeOver, Cond.instanceMethod yX1_takeOver, Cond.selects RX1 yX1_takeOver yX1_takeOver, Cond.code yX1_takeOver cX1_takeOver 2 none, Cond.methodLink RX1 27 yX3_takeOver, Cond.methodLink RL 58 yX8_copy, Cond.instanceMethod yX8_copy, Cond.selects RX8 yX8_copy yX8_copy, Cond.code yX8_copy cX8_copy 3 (some .int), Cond.methodLink RX8 183 yX8_copyToken, Cond.instanceMethod yX8_copyToken, Cond.selects RX8 yX8_copyToken yX8_copyToken, Cond.code yX8_copyToken cX8_copyToken 4 none, Cond.methodLink RL 59 yX7_drop, Cond.instanceMethod yX7_drop, Cond.selects RX7 yX7_drop yX7_drop, Cond.code yX7_drop cX7_drop 3 (some .int), Cond.methodLink RL 62 yX8_drop, Cond.instanceMethod yX8_drop]
def wsL_law_r20 : List Cond := [Cond.selects RX8 yX8_drop yX8_drop, Cond.code yX8_drop cX8_drop 3 (some .int), Cond.methodLink RL 63 yX7_told, Cond.instanceMethod yX7_told, Cond.selects RX7 yX7_told yX7_told, Cond.code yX7_told cX7_told 3 (some .int), Cond.methodLink RX7 159 yX6_limitTold, Cond.instanceMethod yX6_limitTold, Cond.selects RX6 yX6_limitTold yX6_limitTold, Cond.code yX6_limitTold cX6_limitTold 2 (some .int), Cond.fieldLink RX6 34 "LimitTokens$Limit" "text" "LLimitTokens$Row;", Cond.fieldLink RX6 37 "LimitTokens$Row" "length" "I", Cond.methodLink RX6 40 yX1_isOfOthers, Cond.instanceMethod yX1_isOfOthers, Cond.selects RX1 yX1_isOfOthers yX1_isOfOthers, Cond.code yX1_isOfOthers cX1_isOfOthers 1 (some .boolean), Cond.fieldLink RX1 23 "LimitTokens$Row" "length" "I", Cond.methodLink RL 66 yX8_told, Cond.instanceMethod yX8_told, Cond.selects RX8 yX8_told yX8_told, Cond.code yX8_told cX8_told 4 (some .int), Cond.methodLink RL 67 yX7_sign, Cond.instanceMethod yX7_sign, Cond.selects RX7 yX7_sign yX7_sign]
def wsL_law_r21 : List Cond := [Cond.code yX7_sign cX7_sign 3 (some .int), Cond.methodLink RX7 162 yX3_has, Cond.methodLink RL 70 yX8_sign, Cond.instanceMethod yX8_sign, Cond.selects RX8 yX8_sign yX8_sign, Cond.code yX8_sign cX8_sign 3 (some .int), Cond.methodLink RL 71 yX7_spoil, Cond.instanceMethod yX7_spoil, Cond.selects RX7 yX7_spoil yX7_spoil, Cond.code yX7_spoil cX7_spoil 6 (some .int), Cond.methodLink RX7 165 yX7_isByte, Cond.static yX7_isByte, Cond.code yX7_isByte cX7_isByte 1 (some .boolean), Cond.methodLink RX7 168 yX3_flip, Cond.methodLink RL 75 yX8_spoil, Cond.instanceMethod yX8_spoil, Cond.selects RX8 yX8_spoil yX8_spoil, Cond.code yX8_spoil cX8_spoil 6 (some .int), Cond.methodLink RL 76 yX7_ask, Cond.instanceMethod yX7_ask, Cond.selects RX7 yX7_ask yX7_ask, Cond.code yX7_ask cX7_ask 4 (some .int), Cond.constant RX7 172 (999999), Cond.methodLink RL 79 yX8_ask]
def wsL_law_r22 : List Cond := [Cond.instanceMethod yX8_ask, Cond.selects RX8 yX8_ask yX8_ask, Cond.code yX8_ask cX8_ask 4 (some .int), Cond.constant RX8 187 (999999), Cond.methodLink RL 80 yX7_truth, Cond.instanceMethod yX7_truth, Cond.selects RX7 yX7_truth yX7_truth, Cond.code yX7_truth cX7_truth 2 (some .int), Cond.methodLink RX7 173 yX0_judgeText, Cond.instanceMethod yX0_judgeText, Cond.selects RX0 yX0_judgeText yX0_judgeText, Cond.code yX0_judgeText cX0_judgeText 7 (some .int), Cond.fieldLink RX0 15 "LimitTokens$Judge" "position" "I", Cond.fieldLink RX0 19 "LimitTokens$Row" "length" "I", Cond.methodLink RX0 24 yX0_judgeTest, Cond.instanceMethod yX0_judgeTest, Cond.selects RX0 yX0_judgeTest yX0_judgeTest, Cond.code yX0_judgeTest cX0_judgeTest 6 (some .int), Cond.methodLink RX0 28 yX3_byteAt, Cond.methodLink RX0 32 yX0_takeNumber, Cond.instanceMethod yX0_takeNumber, Cond.selects RX0 yX0_takeNumber yX0_takeNumber, Cond.code yX0_takeNumber cX0_takeNumber 5 (some .int), Cond.methodLink RX0 43 Lib.Math.max.name]
def wsL_law_r23 : List Cond := [Cond.methodLink RX0 35 yX0_isKind, Cond.static yX0_isKind, Cond.code yX0_isKind cX0_isKind 1 (some .boolean), Cond.methodLink RX0 39 yX0_holds, Cond.static yX0_holds, Cond.code yX0_holds cX0_holds 3 (some .boolean), Cond.methodLink RL 83 yX8_truth, Cond.instanceMethod yX8_truth, Cond.selects RX8 yX8_truth yX8_truth, Cond.code yX8_truth cX8_truth 2 (some .int), Cond.methodLink RX8 191 yX8_truthOf, Cond.instanceMethod yX8_truthOf, Cond.selects RX8 yX8_truthOf yX8_truthOf, Cond.code yX8_truthOf cX8_truthOf 15 (some .int), Cond.methodLink RX8 188 yX8_isDigit, Cond.static yX8_isDigit, Cond.code yX8_isDigit cX8_isDigit 1 (some .boolean), Cond.methodLink RL 84 yX7_prove, Cond.instanceMethod yX7_prove, Cond.selects RX7 yX7_prove yX7_prove, Cond.code yX7_prove cX7_prove 4 (some .int), Cond.fieldLink RX7 191 "LimitTokens$Prover" "found" "I", Cond.methodLink RX7 177 yX7_areThere, Cond.instanceMethod yX7_areThere]
def wsL_law_r24 : List Cond := [Cond.selects RX7 yX7_areThere yX7_areThere, Cond.code yX7_areThere cX7_areThere 3 (some .boolean), Cond.methodLink RX7 180 yX2_begin, Cond.instanceMethod yX2_begin, Cond.selects RX2 yX2_begin yX2_begin, Cond.code yX2_begin cX2_begin 3 none, Cond.fieldLink RX2 54 "LimitTokens$Prover" "proved" "I", Cond.fieldLink RX2 57 "LimitTokens$Prover" "waiting" "I", Cond.fieldLink RX2 60 "LimitTokens$Prover" "found" "I", Cond.instanceMethod yX2_walk, Cond.selects RX2 yX2_walk yX2_walk, Cond.code yX2_walk cX2_walk 7 (some .boolean), Cond.fieldLink RX2 63 "LimitTokens$Token" "name" "LLimitTokens$Row;", Cond.fieldLink RX2 71 "LimitTokens$Token" "count" "I", Cond.fieldLink RX2 74 "LimitTokens$Token" "limits" "[LLimitTokens$Limit;", Cond.methodLink RX2 67 yX4_sealInto, Cond.methodLink RX2 78 yX1_isOfOthers, Cond.methodLink RX2 84 yX2_passOthers, Cond.instanceMethod yX2_passOthers, Cond.selects RX2 yX2_passOthers yX2_passOthers, Cond.methodLink RX2 88 yX2_passOwn, Cond.instanceMethod yX2_passOwn, Cond.selects RX2 yX2_passOwn yX2_passOwn, Cond.code yX2_passOwn cX2_passOwn 6 (some .boolean)]
def wsL_law_r25 : List Cond := [Cond.fieldLink RX2 101 "LimitTokens$Limit" "text" "LLimitTokens$Row;", Cond.methodLink RX2 104 yX0_judgeText, Cond.methodLink RX2 98 yX2_stopAt, Cond.instanceMethod yX2_stopAt, Cond.selects RX2 yX2_stopAt yX2_stopAt, Cond.code yX2_stopAt cX2_stopAt 4 (some .boolean), Cond.methodLink RX2 108 yX4_goOnOwn, Cond.code yX2_passOthers cX2_passOthers 7 (some .boolean), Cond.fieldLink RX2 115 "LimitTokens$Limit" "lock" "LLimitTokens$Row;", Cond.fieldLink RX2 91 "LimitTokens$Token" "sign" "LLimitTokens$Row;", Cond.methodLink RX2 112 yX2_helperNamed, Cond.instanceMethod yX2_helperNamed, Cond.selects RX2 yX2_helperNamed yX2_helperNamed, Cond.code yX2_helperNamed cX2_helperNamed 3 (some .int), Cond.methodLink RX2 94 yX3_isSameAs, Cond.instanceMethod yX3_isSameAs, Cond.selects RX3 yX3_isSameAs yX3_isSameAs, Cond.code yX3_isSameAs cX3_isSameAs 3 (some .boolean), Cond.methodLink RX2 118 yX4_turnKey, Cond.methodLink RX2 122 yX2_walk, Cond.methodLink RX2 126 yX4_bindSign, Cond.methodLink RX2 130 yX4_goOnOthers, Cond.methodLink RX7 188 yX2_compareSign, Cond.instanceMethod yX2_compareSign]
def wsL_law_r26 : List Cond := [Cond.selects RX2 yX2_compareSign yX2_compareSign, Cond.code yX2_compareSign cX2_compareSign 1 none, Cond.methodLink RL 87 yX8_prove, Cond.instanceMethod yX8_prove, Cond.selects RX8 yX8_prove yX8_prove, Cond.code yX8_prove cX8_prove 5 (some .int), Cond.fieldLink RX8 198 "LimitTokensModel" "proved" "Z", Cond.fieldLink RX8 202 "LimitTokensModel" "begun" "I", Cond.fieldLink RX8 195 "LimitTokensModel" "depth" "I", Cond.methodLink RX8 205 yX8_beginWalk, Cond.instanceMethod yX8_beginWalk, Cond.selects RX8 yX8_beginWalk yX8_beginWalk, Cond.code yX8_beginWalk cX8_beginWalk 2 none, Cond.methodLink RX8 208 yX8_walkOn, Cond.instanceMethod yX8_walkOn, Cond.selects RX8 yX8_walkOn yX8_walkOn, Cond.code yX8_walkOn cX8_walkOn 7 (some .int), Cond.methodLink RX8 212 yX8_endWalk, Cond.instanceMethod yX8_endWalk, Cond.selects RX8 yX8_endWalk yX8_endWalk, Cond.code yX8_endWalk cX8_endWalk 5 (some .int), Cond.methodLink RX8 223 yX8_isSame, Cond.instanceMethod yX8_isSame, Cond.selects RX8 yX8_isSame yX8_isSame]
def wsL_law_r27 : List Cond := [Cond.code yX8_isSame cX8_isSame 5 (some .boolean), Cond.methodLink RX8 216 yX8_fail, Cond.instanceMethod yX8_fail, Cond.selects RX8 yX8_fail yX8_fail, Cond.code yX8_fail cX8_fail 4 (some .int), Cond.methodLink RX8 219 yX8_isNamed, Cond.instanceMethod yX8_isNamed, Cond.selects RX8 yX8_isNamed yX8_isNamed, Cond.code yX8_isNamed cX8_isNamed 5 (some .boolean), Cond.methodLink RL 88 yX7_fault, Cond.instanceMethod yX7_fault, Cond.selects RX7 yX7_fault yX7_fault, Cond.code yX7_fault cX7_fault 2 (some .int), Cond.fieldLink RX7 194 "LimitTokens$Prover" "foundToken" "I", Cond.fieldLink RX7 197 "LimitTokens$Prover" "foundLimit" "I", Cond.fieldLink RX7 200 "LimitTokens$Prover" "begun" "I", Cond.methodLink RL 91 yX8_fault, Cond.instanceMethod yX8_fault, Cond.selects RX8 yX8_fault yX8_fault, Cond.code yX8_fault cX8_fault 2 (some .int), Cond.methodLink RL 92 yX7_write, Cond.instanceMethod yX7_write, Cond.selects RX7 yX7_write yX7_write, Cond.code yX7_write cX7_write 2 (some .int)]
def wsL_law_r28 : List Cond := [Cond.methodLink RX7 203 yX6_putOn, Cond.instanceMethod yX6_putOn, Cond.selects RX6 yX6_putOn yX6_putOn, Cond.code yX6_putOn cX6_putOn 3 none, Cond.methodLink RX6 55 yX3_push, Cond.methodLink RX6 58 yX3_pushAll, Cond.methodLink RX6 61 yX1_putOn, Cond.instanceMethod yX1_putOn, Cond.selects RX1 yX1_putOn yX1_putOn, Cond.code yX1_putOn cX1_putOn 2 none, Cond.methodLink RX1 31 yX3_push, Cond.methodLink RX1 34 yX3_pushAll, Cond.methodLink RX1 37 yX1_isOfOthers, Cond.methodLink RL 95 yX8_write, Cond.instanceMethod yX8_write, Cond.selects RX8 yX8_write yX8_write, Cond.code yX8_write cX8_write 4 (some .int), Cond.fieldLink RX8 227 "LimitTokensModel" "tapeSize" "I", Cond.methodLink RX8 230 yX8_put, Cond.instanceMethod yX8_put, Cond.selects RX8 yX8_put yX8_put, Cond.code yX8_put cX8_put 2 none, Cond.methodLink RX8 233 yX8_putRow, Cond.instanceMethod yX8_putRow]
def wsL_law_r29 : List Cond := [Cond.selects RX8 yX8_putRow yX8_putRow, Cond.code yX8_putRow cX8_putRow 6 none, Cond.methodLink RL 96 yX7_type, Cond.instanceMethod yX7_type, Cond.selects RX7 yX7_type yX7_type, Cond.code yX7_type cX7_type 4 (some .int), Cond.methodLink RL 100 yX8_type, Cond.instanceMethod yX8_type, Cond.selects RX8 yX8_type yX8_type, Cond.code yX8_type cX8_type 5 (some .int), Cond.methodLink RL 101 yX7_tape, Cond.instanceMethod yX7_tape, Cond.selects RX7 yX7_tape yX7_tape, Cond.code yX7_tape cX7_tape 2 (some .int), Cond.methodLink RL 104 yX8_tape, Cond.instanceMethod yX8_tape, Cond.selects RX8 yX8_tape yX8_tape, Cond.code yX8_tape cX8_tape 2 (some .int), Cond.methodLink RL 105 yX7_cut, Cond.instanceMethod yX7_cut, Cond.selects RX7 yX7_cut yX7_cut, Cond.code yX7_cut cX7_cut 3 (some .int), Cond.methodLink RL 108 yX8_cut, Cond.instanceMethod yX8_cut]
def wsL_law_r30 : List Cond := [Cond.selects RX8 yX8_cut yX8_cut, Cond.code yX8_cut cX8_cut 3 (some .int), Cond.methodLink RL 109 yX7_forge, Cond.instanceMethod yX7_forge, Cond.selects RX7 yX7_forge yX7_forge, Cond.code yX7_forge cX7_forge 3 (some .int), Cond.methodLink RL 112 yX8_forge, Cond.instanceMethod yX8_forge, Cond.selects RX8 yX8_forge yX8_forge, Cond.code yX8_forge cX8_forge 3 (some .int), Cond.methodLink RL 113 yX7_read, Cond.instanceMethod yX7_read, Cond.selects RX7 yX7_read yX7_read, Cond.code yX7_read cX7_read 2 (some .int), Cond.fieldLink RX7 210 "LimitTokens$TapeReader" "found" "I", Cond.methodLink RX7 206 yX5_readToken, Cond.instanceMethod yX5_readToken, Cond.selects RX5 yX5_readToken yX5_readToken, Cond.code yX5_readToken cX5_readToken 2 (some .boolean), Cond.fieldLink RX5 24 "LimitTokens$TapeReader" "position" "I", Cond.fieldLink RX5 27 "LimitTokens$TapeReader" "found" "I", Cond.fieldLink RX5 30 "LimitTokens$Token" "there" "Z", Cond.fieldLink RX5 36 "LimitTokens$Token" "count" "I", Cond.fieldLink RX5 43 "LimitTokens$Token" "name" "LLimitTokens$Row;"]
def wsL_law_r31 : List Cond := [Cond.fieldLink RX5 54 "LimitTokens$Token" "sign" "LLimitTokens$Row;", Cond.fieldLink RX5 57 "LimitTokens$Row" "length" "I", Cond.methodLink RX5 39 yX5_takeMark, Cond.instanceMethod yX5_takeMark, Cond.selects RX5 yX5_takeMark yX5_takeMark, Cond.code yX5_takeMark cX5_takeMark 2 (some .boolean), Cond.methodLink RX5 86 yX3_has, Cond.methodLink RX5 60 yX5_stopAt, Cond.instanceMethod yX5_stopAt, Cond.selects RX5 yX5_stopAt yX5_stopAt, Cond.code yX5_stopAt cX5_stopAt 2 (some .boolean), Cond.methodLink RX5 63 yX3_byteAt, Cond.methodLink RX5 46 yX5_takeBytes, Cond.instanceMethod yX5_takeBytes, Cond.selects RX5 yX5_takeBytes yX5_takeBytes, Cond.code yX5_takeBytes cX5_takeBytes 5 (some .boolean), Cond.methodLink RX5 83 yX3_makeEmpty, Cond.methodLink RX5 89 yX3_pushPart, Cond.methodLink RX5 50 yX5_takeLimits, Cond.instanceMethod yX5_takeLimits, Cond.selects RX5 yX5_takeLimits yX5_takeLimits, Cond.code yX5_takeLimits cX5_takeLimits 3 (some .boolean), Cond.fieldLink RX5 67 "LimitTokens$Token" "limits" "[LLimitTokens$Limit;", Cond.methodLink RX5 71 yX5_takeLimit]
def wsL_law_r32 : List Cond := [Cond.instanceMethod yX5_takeLimit, Cond.selects RX5 yX5_takeLimit yX5_takeLimit, Cond.code yX5_takeLimit cX5_takeLimit 2 (some .boolean), Cond.fieldLink RX5 75 "LimitTokens$Limit" "text" "LLimitTokens$Row;", Cond.fieldLink RX5 80 "LimitTokens$Limit" "lock" "LLimitTokens$Row;", Cond.methodLink RL 116 yX8_read, Cond.instanceMethod yX8_read, Cond.selects RX8 yX8_read yX8_read, Cond.code yX8_read cX8_read 4 (some .int), Cond.fieldLink RX8 240 "LimitTokensModel" "readAt" "I", Cond.fieldLink RX8 237 "LimitTokensModel" "readFault" "I", Cond.methodLink RX8 254 yX8_want, Cond.instanceMethod yX8_want, Cond.selects RX8 yX8_want yX8_want, Cond.code yX8_want cX8_want 3 none, Cond.methodLink RX8 246 yX8_next, Cond.instanceMethod yX8_next, Cond.selects RX8 yX8_next yX8_next, Cond.code yX8_next cX8_next 1 (some .int), Cond.methodLink RX8 243 yX8_wrong, Cond.instanceMethod yX8_wrong, Cond.selects RX8 yX8_wrong yX8_wrong, Cond.code yX8_wrong cX8_wrong 3 none, Cond.methodLink RX8 250 yX8_readRow]
def wsL_law_r33 : List Cond := [Cond.instanceMethod yX8_readRow, Cond.selects RX8 yX8_readRow yX8_readRow, Cond.code yX8_readRow cX8_readRow 7 (some .int), Cond.methodLink RX8 257 yX8_readLimit, Cond.instanceMethod yX8_readLimit, Cond.selects RX8 yX8_readLimit yX8_readLimit, Cond.code yX8_readLimit cX8_readLimit 4 none, Cond.methodLink RL 117 yX7_place, Cond.instanceMethod yX7_place, Cond.selects RX7 yX7_place yX7_place, Cond.code yX7_place cX7_place 1 (some .int), Cond.fieldLink RX7 211 "LimitTokens$TapeReader" "foundPlace" "I", Cond.methodLink RL 121 yX8_place_, Cond.instanceMethod yX8_place_, Cond.selects RX8 yX8_place_ yX8_place_, Cond.code yX8_place_ cX8_place_ 1 (some .int)]
def wsL_law : List Cond := (wsL_law_r1 ++ (wsL_law_r2 ++ (wsL_law_r3 ++ (wsL_law_r4 ++ (wsL_law_r5 ++ (wsL_law_r6 ++ (wsL_law_r7 ++ (wsL_law_r8 ++ (wsL_law_r9 ++ (wsL_law_r10 ++ (wsL_law_r11 ++ (wsL_law_r12 ++ (wsL_law_r13 ++ (wsL_law_r14 ++ (wsL_law_r15 ++ (wsL_law_r16 ++ (wsL_law_r17 ++ (wsL_law_r18 ++ (wsL_law_r19 ++ (wsL_law_r20 ++ (wsL_law_r21 ++ (wsL_law_r22 ++ (wsL_law_r23 ++ (wsL_law_r24 ++ (wsL_law_r25 ++ (wsL_law_r26 ++ (wsL_law_r27 ++ (wsL_law_r28 ++ (wsL_law_r29 ++ (wsL_law_r30 ++ (wsL_law_r31 ++ (wsL_law_r32 ++ wsL_law_r33)))))))))))))))))))))))))))))))) ++ wsX70 ++ wsX80 ++ wsX20 ++ wsX50 ++ wsX60 ++ wsX00 ++ wsX30 ++ wsX40 ++ wsX10 ++ ([] : List Cond)
abbrev vwCl : List vw_C := [(RX0, TX0, 2), (RX1, TX1, 2), (RX2, TX2, 11), (RX3, TX3, 2), (RX4, TX4, 9), (RX5, TX5, 4), (RX6, TX6, 5), (RX7, TX7, 9), (RX8, TX8, 42)]
end
section
theorem dX3_init_0 : decode cX3_init 0 = .ok (.aload_n 0, 1) := by decide +kernel
theorem dX3_init_1 : decode cX3_init 1 = .ok (.invokespecial 3, 3) := by decide +kernel
theorem dX3_init_4 : decode cX3_init 4 = .ok (.aload_n 0, 1) := by decide +kernel
theorem dX3_init_5 : decode cX3_init 5 = .ok (.iconst 0, 1) := by decide +kernel
theorem dX3_init_6 : decode cX3_init 6 = .ok (.iload_n 1, 1) := by decide +kernel
theorem dX3_init_7 : decode cX3_init 7 = .ok (.invokestatic 9, 3) := by decide +kernel
theorem dX3_init_10 : decode cX3_init 10 = .ok (.newarray .int, 2) := by decide +kernel
theorem dX3_init_12 : decode cX3_init 12 = .ok (.putfield 15, 3) := by decide +kernel
theorem dX3_init_15 : decode cX3_init 15 = .ok (.return_, 1) := by decide +kernel
theorem dX3_has_0 : decode cX3_has 0 = .ok (.iload_n 1, 1) := by decide +kernel
theorem dX3_has_1 : decode cX3_has 1 = .ok (.ifCond .lt 15, 3) := by decide +kernel
theorem dX3_has_4 : decode cX3_has 4 = .ok (.iload_n 1, 1) := by decide +kernel
theorem dX3_has_5 : decode cX3_has 5 = .ok (.aload_n 0, 1) := by decide +kernel
theorem dX3_has_6 : decode cX3_has 6 = .ok (.getfield 21, 3) := by decide +kernel
theorem dX3_has_9 : decode cX3_has 9 = .ok (.if_icmp .ge 7, 3) := by decide +kernel
theorem dX3_has_12 : decode cX3_has 12 = .ok (.iconst 1, 1) := by decide +kernel
theorem dX3_has_13 : decode cX3_has 13 = .ok (.goto 4, 3) := by decide +kernel
theorem dX3_has_16 : decode cX3_has 16 = .ok (.iconst 0, 1) := by decide +kernel
theorem dX3_has_17 : decode cX3_has 17 = .ok (.ireturn, 1) := by decide +kernel
theorem dX3_hasRoomFor_0 : decode cX3_hasRoomFor 0 = .ok (.iload_n 1, 1) := by decide +kernel
theorem dX3_hasRoomFor_1 : decode cX3_hasRoomFor 1 = .ok (.aload_n 0, 1) := by decide +kernel
theorem dX3_hasRoomFor_2 : decode cX3_hasRoomFor 2 = .ok (.getfield 15, 3) := by decide +kernel
theorem dX3_hasRoomFor_5 : decode cX3_hasRoomFor 5 = .ok (.arraylength, 1) := by decide +kernel
theorem dX3_hasRoomFor_6 : decode cX3_hasRoomFor 6 = .ok (.aload_n 0, 1) := by decide +kernel
theorem dX3_hasRoomFor_7 : decode cX3_hasRoomFor 7 = .ok (.getfield 21, 3) := by decide +kernel
theorem dX3_hasRoomFor_10 : decode cX3_hasRoomFor 10 = .ok (.isub, 1) := by decide +kernel
theorem dX3_hasRoomFor_11 : decode cX3_hasRoomFor 11 = .ok (.if_icmp .gt 7, 3) := by decide +kernel
theorem dX3_hasRoomFor_14 : decode cX3_hasRoomFor 14 = .ok (.iconst 1, 1) := by decide +kernel
theorem dX3_hasRoomFor_15 : decode cX3_hasRoomFor 15 = .ok (.goto 4, 3) := by decide +kernel
theorem dX3_hasRoomFor_18 : decode cX3_hasRoomFor 18 = .ok (.iconst 0, 1) := by decide +kernel
theorem dX3_hasRoomFor_19 : decode cX3_hasRoomFor 19 = .ok (.ireturn, 1) := by decide +kernel
theorem dX3_byteAt_0 : decode cX3_byteAt 0 = .ok (.iload_n 1, 1) := by decide +kernel
theorem dX3_byteAt_1 : decode cX3_byteAt 1 = .ok (.ifCond .lt 20, 3) := by decide +kernel
theorem dX3_byteAt_4 : decode cX3_byteAt 4 = .ok (.iload_n 1, 1) := by decide +kernel
theorem dX3_byteAt_5 : decode cX3_byteAt 5 = .ok (.aload_n 0, 1) := by decide +kernel
theorem dX3_byteAt_6 : decode cX3_byteAt 6 = .ok (.getfield 21, 3) := by decide +kernel
theorem dX3_byteAt_9 : decode cX3_byteAt 9 = .ok (.if_icmp .ge 12, 3) := by decide +kernel
theorem dX3_byteAt_12 : decode cX3_byteAt 12 = .ok (.aload_n 0, 1) := by decide +kernel
theorem dX3_byteAt_13 : decode cX3_byteAt 13 = .ok (.getfield 15, 3) := by decide +kernel
theorem dX3_byteAt_16 : decode cX3_byteAt 16 = .ok (.iload_n 1, 1) := by decide +kernel
theorem dX3_byteAt_17 : decode cX3_byteAt 17 = .ok (.iaload, 1) := by decide +kernel
theorem dX3_byteAt_18 : decode cX3_byteAt 18 = .ok (.goto 4, 3) := by decide +kernel
theorem dX3_byteAt_21 : decode cX3_byteAt 21 = .ok (.iconst (-1), 1) := by decide +kernel
theorem dX3_byteAt_22 : decode cX3_byteAt 22 = .ok (.ireturn, 1) := by decide +kernel
theorem dX3_makeEmpty_0 : decode cX3_makeEmpty 0 = .ok (.aload_n 0, 1) := by decide +kernel
theorem dX3_makeEmpty_1 : decode cX3_makeEmpty 1 = .ok (.iconst 0, 1) := by decide +kernel
theorem dX3_makeEmpty_2 : decode cX3_makeEmpty 2 = .ok (.putfield 21, 3) := by decide +kernel
theorem dX3_makeEmpty_5 : decode cX3_makeEmpty 5 = .ok (.return_, 1) := by decide +kernel
theorem dX3_push_0 : decode cX3_push 0 = .ok (.aload_n 0, 1) := by decide +kernel
theorem dX3_push_1 : decode cX3_push 1 = .ok (.getfield 21, 3) := by decide +kernel
theorem dX3_push_4 : decode cX3_push 4 = .ok (.aload_n 0, 1) := by decide +kernel
theorem dX3_push_5 : decode cX3_push 5 = .ok (.getfield 15, 3) := by decide +kernel
theorem dX3_push_8 : decode cX3_push 8 = .ok (.arraylength, 1) := by decide +kernel
theorem dX3_push_9 : decode cX3_push 9 = .ok (.if_icmp .ge 23, 3) := by decide +kernel
theorem dX3_push_12 : decode cX3_push 12 = .ok (.aload_n 0, 1) := by decide +kernel
theorem dX3_push_13 : decode cX3_push 13 = .ok (.getfield 15, 3) := by decide +kernel
theorem dX3_push_16 : decode cX3_push 16 = .ok (.aload_n 0, 1) := by decide +kernel
theorem dX3_push_17 : decode cX3_push 17 = .ok (.getfield 21, 3) := by decide +kernel
theorem dX3_push_20 : decode cX3_push 20 = .ok (.iload_n 1, 1) := by decide +kernel
theorem dX3_push_21 : decode cX3_push 21 = .ok (.iastore, 1) := by decide +kernel
theorem dX3_push_22 : decode cX3_push 22 = .ok (.aload_n 0, 1) := by decide +kernel
theorem dX3_push_23 : decode cX3_push 23 = .ok (.dup, 1) := by decide +kernel
theorem dX3_push_24 : decode cX3_push 24 = .ok (.getfield 21, 3) := by decide +kernel
theorem dX3_push_27 : decode cX3_push 27 = .ok (.iconst 1, 1) := by decide +kernel
theorem dX3_push_28 : decode cX3_push 28 = .ok (.iadd, 1) := by decide +kernel
theorem dX3_push_29 : decode cX3_push 29 = .ok (.putfield 21, 3) := by decide +kernel
theorem dX3_push_32 : decode cX3_push 32 = .ok (.return_, 1) := by decide +kernel
theorem dX3_pushWord_0 : decode cX3_pushWord 0 = .ok (.aload_n 0, 1) := by decide +kernel
theorem dX3_pushWord_1 : decode cX3_pushWord 1 = .ok (.getfield 21, 3) := by decide +kernel
theorem dX3_pushWord_4 : decode cX3_pushWord 4 = .ok (.aload_n 0, 1) := by decide +kernel
theorem dX3_pushWord_5 : decode cX3_pushWord 5 = .ok (.getfield 15, 3) := by decide +kernel
theorem dX3_pushWord_8 : decode cX3_pushWord 8 = .ok (.arraylength, 1) := by decide +kernel
theorem dX3_pushWord_9 : decode cX3_pushWord 9 = .ok (.iconst 4, 1) := by decide +kernel
theorem dX3_pushWord_10 : decode cX3_pushWord 10 = .ok (.isub, 1) := by decide +kernel
theorem dX3_pushWord_11 : decode cX3_pushWord 11 = .ok (.if_icmp .gt 80, 3) := by decide +kernel
theorem dX3_pushWord_14 : decode cX3_pushWord 14 = .ok (.aload_n 0, 1) := by decide +kernel
theorem dX3_pushWord_15 : decode cX3_pushWord 15 = .ok (.getfield 15, 3) := by decide +kernel
theorem dX3_pushWord_18 : decode cX3_pushWord 18 = .ok (.aload_n 0, 1) := by decide +kernel
theorem dX3_pushWord_19 : decode cX3_pushWord 19 = .ok (.getfield 21, 3) := by decide +kernel
theorem dX3_pushWord_22 : decode cX3_pushWord 22 = .ok (.iload_n 1, 1) := by decide +kernel
theorem dX3_pushWord_23 : decode cX3_pushWord 23 = .ok (.bipush 24, 2) := by decide +kernel
theorem dX3_pushWord_25 : decode cX3_pushWord 25 = .ok (.iushr, 1) := by decide +kernel
theorem dX3_pushWord_26 : decode cX3_pushWord 26 = .ok (.iastore, 1) := by decide +kernel
theorem dX3_pushWord_27 : decode cX3_pushWord 27 = .ok (.aload_n 0, 1) := by decide +kernel
theorem dX3_pushWord_28 : decode cX3_pushWord 28 = .ok (.getfield 15, 3) := by decide +kernel
theorem dX3_pushWord_31 : decode cX3_pushWord 31 = .ok (.aload_n 0, 1) := by decide +kernel
theorem dX3_pushWord_32 : decode cX3_pushWord 32 = .ok (.getfield 21, 3) := by decide +kernel
theorem dX3_pushWord_35 : decode cX3_pushWord 35 = .ok (.iconst 1, 1) := by decide +kernel
theorem dX3_pushWord_36 : decode cX3_pushWord 36 = .ok (.iadd, 1) := by decide +kernel
theorem dX3_pushWord_37 : decode cX3_pushWord 37 = .ok (.iload_n 1, 1) := by decide +kernel
theorem dX3_pushWord_38 : decode cX3_pushWord 38 = .ok (.bipush 16, 2) := by decide +kernel
theorem dX3_pushWord_40 : decode cX3_pushWord 40 = .ok (.iushr, 1) := by decide +kernel
theorem dX3_pushWord_41 : decode cX3_pushWord 41 = .ok (.sipush 255, 3) := by decide +kernel
theorem dX3_pushWord_44 : decode cX3_pushWord 44 = .ok (.iand, 1) := by decide +kernel
theorem dX3_pushWord_45 : decode cX3_pushWord 45 = .ok (.iastore, 1) := by decide +kernel
theorem dX3_pushWord_46 : decode cX3_pushWord 46 = .ok (.aload_n 0, 1) := by decide +kernel
theorem dX3_pushWord_47 : decode cX3_pushWord 47 = .ok (.getfield 15, 3) := by decide +kernel
theorem dX3_pushWord_50 : decode cX3_pushWord 50 = .ok (.aload_n 0, 1) := by decide +kernel
theorem dX3_pushWord_51 : decode cX3_pushWord 51 = .ok (.getfield 21, 3) := by decide +kernel
theorem dX3_pushWord_54 : decode cX3_pushWord 54 = .ok (.iconst 2, 1) := by decide +kernel
theorem dX3_pushWord_55 : decode cX3_pushWord 55 = .ok (.iadd, 1) := by decide +kernel
theorem dX3_pushWord_56 : decode cX3_pushWord 56 = .ok (.iload_n 1, 1) := by decide +kernel
theorem dX3_pushWord_57 : decode cX3_pushWord 57 = .ok (.bipush 8, 2) := by decide +kernel
theorem dX3_pushWord_59 : decode cX3_pushWord 59 = .ok (.iushr, 1) := by decide +kernel
theorem dX3_pushWord_60 : decode cX3_pushWord 60 = .ok (.sipush 255, 3) := by decide +kernel
theorem dX3_pushWord_63 : decode cX3_pushWord 63 = .ok (.iand, 1) := by decide +kernel
theorem dX3_pushWord_64 : decode cX3_pushWord 64 = .ok (.iastore, 1) := by decide +kernel
theorem dX3_pushWord_65 : decode cX3_pushWord 65 = .ok (.aload_n 0, 1) := by decide +kernel
theorem dX3_pushWord_66 : decode cX3_pushWord 66 = .ok (.getfield 15, 3) := by decide +kernel
theorem dX3_pushWord_69 : decode cX3_pushWord 69 = .ok (.aload_n 0, 1) := by decide +kernel
theorem dX3_pushWord_70 : decode cX3_pushWord 70 = .ok (.getfield 21, 3) := by decide +kernel
theorem dX3_pushWord_73 : decode cX3_pushWord 73 = .ok (.iconst 3, 1) := by decide +kernel
theorem dX3_pushWord_74 : decode cX3_pushWord 74 = .ok (.iadd, 1) := by decide +kernel
theorem dX3_pushWord_75 : decode cX3_pushWord 75 = .ok (.iload_n 1, 1) := by decide +kernel
theorem dX3_pushWord_76 : decode cX3_pushWord 76 = .ok (.sipush 255, 3) := by decide +kernel
theorem dX3_pushWord_79 : decode cX3_pushWord 79 = .ok (.iand, 1) := by decide +kernel
theorem dX3_pushWord_80 : decode cX3_pushWord 80 = .ok (.iastore, 1) := by decide +kernel
theorem dX3_pushWord_81 : decode cX3_pushWord 81 = .ok (.aload_n 0, 1) := by decide +kernel
theorem dX3_pushWord_82 : decode cX3_pushWord 82 = .ok (.dup, 1) := by decide +kernel
theorem dX3_pushWord_83 : decode cX3_pushWord 83 = .ok (.getfield 21, 3) := by decide +kernel
theorem dX3_pushWord_86 : decode cX3_pushWord 86 = .ok (.iconst 4, 1) := by decide +kernel
theorem dX3_pushWord_87 : decode cX3_pushWord 87 = .ok (.iadd, 1) := by decide +kernel
theorem dX3_pushWord_88 : decode cX3_pushWord 88 = .ok (.putfield 21, 3) := by decide +kernel
theorem dX3_pushWord_91 : decode cX3_pushWord 91 = .ok (.return_, 1) := by decide +kernel
theorem dX3_pushZeros_0 : decode cX3_pushZeros 0 = .ok (.iconst 0, 1) := by decide +kernel
theorem dX3_pushZeros_1 : decode cX3_pushZeros 1 = .ok (.istore_n 2, 1) := by decide +kernel
theorem dX3_pushZeros_2 : decode cX3_pushZeros 2 = .ok (.iload_n 2, 1) := by decide +kernel
theorem dX3_pushZeros_3 : decode cX3_pushZeros 3 = .ok (.iload_n 1, 1) := by decide +kernel
theorem dX3_pushZeros_4 : decode cX3_pushZeros 4 = .ok (.if_icmp .ge 41, 3) := by decide +kernel
theorem dX3_pushZeros_7 : decode cX3_pushZeros 7 = .ok (.aload_n 0, 1) := by decide +kernel
theorem dX3_pushZeros_8 : decode cX3_pushZeros 8 = .ok (.getfield 21, 3) := by decide +kernel
theorem dX3_pushZeros_11 : decode cX3_pushZeros 11 = .ok (.aload_n 0, 1) := by decide +kernel
theorem dX3_pushZeros_12 : decode cX3_pushZeros 12 = .ok (.getfield 15, 3) := by decide +kernel
theorem dX3_pushZeros_15 : decode cX3_pushZeros 15 = .ok (.arraylength, 1) := by decide +kernel
theorem dX3_pushZeros_16 : decode cX3_pushZeros 16 = .ok (.if_icmp .ge 29, 3) := by decide +kernel
theorem dX3_pushZeros_19 : decode cX3_pushZeros 19 = .ok (.aload_n 0, 1) := by decide +kernel
theorem dX3_pushZeros_20 : decode cX3_pushZeros 20 = .ok (.getfield 15, 3) := by decide +kernel
theorem dX3_pushZeros_23 : decode cX3_pushZeros 23 = .ok (.aload_n 0, 1) := by decide +kernel
theorem dX3_pushZeros_24 : decode cX3_pushZeros 24 = .ok (.getfield 21, 3) := by decide +kernel
theorem dX3_pushZeros_27 : decode cX3_pushZeros 27 = .ok (.iconst 0, 1) := by decide +kernel
theorem dX3_pushZeros_28 : decode cX3_pushZeros 28 = .ok (.iastore, 1) := by decide +kernel
theorem dX3_pushZeros_29 : decode cX3_pushZeros 29 = .ok (.aload_n 0, 1) := by decide +kernel
theorem dX3_pushZeros_30 : decode cX3_pushZeros 30 = .ok (.dup, 1) := by decide +kernel
theorem dX3_pushZeros_31 : decode cX3_pushZeros 31 = .ok (.getfield 21, 3) := by decide +kernel
theorem dX3_pushZeros_34 : decode cX3_pushZeros 34 = .ok (.iconst 1, 1) := by decide +kernel
theorem dX3_pushZeros_35 : decode cX3_pushZeros 35 = .ok (.iadd, 1) := by decide +kernel
theorem dX3_pushZeros_36 : decode cX3_pushZeros 36 = .ok (.putfield 21, 3) := by decide +kernel
theorem dX3_pushZeros_39 : decode cX3_pushZeros 39 = .ok (.iinc 2 1, 3) := by decide +kernel
theorem dX3_pushZeros_42 : decode cX3_pushZeros 42 = .ok (.goto (-40), 3) := by decide +kernel
theorem dX3_pushZeros_45 : decode cX3_pushZeros 45 = .ok (.return_, 1) := by decide +kernel
set_option maxRecDepth 20000 in
theorem ggX3_pushAll_X3_pushPart : GoodIn wsX3_pushAll wsX3_pushPart := goodIn_r _ [6, 1, 7, 8, 9, 10, 11, 12, 13] (by decide +kernel) (by decide +kernel)
set_option maxRecDepth 20000 in
theorem gX3_pushAll_X3_pushPart : GoodIn wsX3_pushAll (wsV RX3 25 RX3 yX3_pushPart wsX3_pushPart) := goodIn_app (goodIn_of _ (by decide +kernel)) ggX3_pushAll_X3_pushPart
theorem dX3_pushAll_0 : decode cX3_pushAll 0 = .ok (.aload_n 0, 1) := by decide +kernel
theorem dX3_pushAll_1 : decode cX3_pushAll 1 = .ok (.aload_n 1, 1) := by decide +kernel
theorem dX3_pushAll_2 : decode cX3_pushAll 2 = .ok (.iconst 0, 1) := by decide +kernel
theorem dX3_pushAll_3 : decode cX3_pushAll 3 = .ok (.aload_n 1, 1) := by decide +kernel
theorem dX3_pushAll_4 : decode cX3_pushAll 4 = .ok (.getfield 21, 3) := by decide +kernel
theorem dX3_pushAll_7 : decode cX3_pushAll 7 = .ok (.invokevirtual 25, 3) := by decide +kernel
theorem dX3_pushAll_10 : decode cX3_pushAll 10 = .ok (.return_, 1) := by decide +kernel
theorem dX3_pushPart_0 : decode cX3_pushPart 0 = .ok (.iload_n 2, 1) := by decide +kernel
theorem dX3_pushPart_1 : decode cX3_pushPart 1 = .ok (.ifCond .lt 58, 3) := by decide +kernel
theorem dX3_pushPart_4 : decode cX3_pushPart 4 = .ok (.iload_n 3, 1) := by decide +kernel
theorem dX3_pushPart_5 : decode cX3_pushPart 5 = .ok (.ifCond .lt 54, 3) := by decide +kernel
theorem dX3_pushPart_8 : decode cX3_pushPart 8 = .ok (.iload_n 3, 1) := by decide +kernel
theorem dX3_pushPart_9 : decode cX3_pushPart 9 = .ok (.aload_n 1, 1) := by decide +kernel
theorem dX3_pushPart_10 : decode cX3_pushPart 10 = .ok (.getfield 21, 3) := by decide +kernel
theorem dX3_pushPart_13 : decode cX3_pushPart 13 = .ok (.iload_n 2, 1) := by decide +kernel
theorem dX3_pushPart_14 : decode cX3_pushPart 14 = .ok (.isub, 1) := by decide +kernel
theorem dX3_pushPart_15 : decode cX3_pushPart 15 = .ok (.if_icmp .gt 44, 3) := by decide +kernel
theorem dX3_pushPart_18 : decode cX3_pushPart 18 = .ok (.iload_n 3, 1) := by decide +kernel
theorem dX3_pushPart_19 : decode cX3_pushPart 19 = .ok (.aload_n 0, 1) := by decide +kernel
theorem dX3_pushPart_20 : decode cX3_pushPart 20 = .ok (.getfield 15, 3) := by decide +kernel
theorem dX3_pushPart_23 : decode cX3_pushPart 23 = .ok (.arraylength, 1) := by decide +kernel
theorem dX3_pushPart_24 : decode cX3_pushPart 24 = .ok (.aload_n 0, 1) := by decide +kernel
theorem dX3_pushPart_25 : decode cX3_pushPart 25 = .ok (.getfield 21, 3) := by decide +kernel
theorem dX3_pushPart_28 : decode cX3_pushPart 28 = .ok (.isub, 1) := by decide +kernel
theorem dX3_pushPart_29 : decode cX3_pushPart 29 = .ok (.if_icmp .gt 30, 3) := by decide +kernel
theorem dX3_pushPart_32 : decode cX3_pushPart 32 = .ok (.aload_n 1, 1) := by decide +kernel
theorem dX3_pushPart_33 : decode cX3_pushPart 33 = .ok (.getfield 15, 3) := by decide +kernel
theorem dX3_pushPart_36 : decode cX3_pushPart 36 = .ok (.iload_n 2, 1) := by decide +kernel
theorem dX3_pushPart_37 : decode cX3_pushPart 37 = .ok (.aload_n 0, 1) := by decide +kernel
theorem dX3_pushPart_38 : decode cX3_pushPart 38 = .ok (.getfield 15, 3) := by decide +kernel
theorem dX3_pushPart_41 : decode cX3_pushPart 41 = .ok (.aload_n 0, 1) := by decide +kernel
theorem dX3_pushPart_42 : decode cX3_pushPart 42 = .ok (.getfield 21, 3) := by decide +kernel
theorem dX3_pushPart_45 : decode cX3_pushPart 45 = .ok (.iload_n 3, 1) := by decide +kernel
theorem dX3_pushPart_46 : decode cX3_pushPart 46 = .ok (.invokestatic 29, 3) := by decide +kernel
theorem dX3_pushPart_49 : decode cX3_pushPart 49 = .ok (.aload_n 0, 1) := by decide +kernel
theorem dX3_pushPart_50 : decode cX3_pushPart 50 = .ok (.dup, 1) := by decide +kernel
theorem dX3_pushPart_51 : decode cX3_pushPart 51 = .ok (.getfield 21, 3) := by decide +kernel
theorem dX3_pushPart_54 : decode cX3_pushPart 54 = .ok (.iload_n 3, 1) := by decide +kernel
theorem dX3_pushPart_55 : decode cX3_pushPart 55 = .ok (.iadd, 1) := by decide +kernel
theorem dX3_pushPart_56 : decode cX3_pushPart 56 = .ok (.putfield 21, 3) := by decide +kernel
theorem dX3_pushPart_59 : decode cX3_pushPart 59 = .ok (.return_, 1) := by decide +kernel
set_option maxRecDepth 20000 in
theorem ggX3_takeOver_X3_pushPart : GoodIn wsX3_takeOver wsX3_pushPart := goodIn_r _ [6, 1, 7, 8, 9, 10, 11, 12, 13] (by decide +kernel) (by decide +kernel)
set_option maxRecDepth 20000 in
theorem gX3_takeOver_X3_pushPart : GoodIn wsX3_takeOver (wsV RX3 25 RX3 yX3_pushPart wsX3_pushPart) := goodIn_app (goodIn_of _ (by decide +kernel)) ggX3_takeOver_X3_pushPart
theorem dX3_takeOver_0 : decode cX3_takeOver 0 = .ok (.aload_n 1, 1) := by decide +kernel
theorem dX3_takeOver_1 : decode cX3_takeOver 1 = .ok (.aload_n 0, 1) := by decide +kernel
theorem dX3_takeOver_2 : decode cX3_takeOver 2 = .ok (.if_acmp .eq 18, 3) := by decide +kernel
theorem dX3_takeOver_5 : decode cX3_takeOver 5 = .ok (.aload_n 0, 1) := by decide +kernel
theorem dX3_takeOver_6 : decode cX3_takeOver 6 = .ok (.iconst 0, 1) := by decide +kernel
theorem dX3_takeOver_7 : decode cX3_takeOver 7 = .ok (.putfield 21, 3) := by decide +kernel
theorem dX3_takeOver_10 : decode cX3_takeOver 10 = .ok (.aload_n 0, 1) := by decide +kernel
theorem dX3_takeOver_11 : decode cX3_takeOver 11 = .ok (.aload_n 1, 1) := by decide +kernel
theorem dX3_takeOver_12 : decode cX3_takeOver 12 = .ok (.iconst 0, 1) := by decide +kernel
theorem dX3_takeOver_13 : decode cX3_takeOver 13 = .ok (.aload_n 1, 1) := by decide +kernel
theorem dX3_takeOver_14 : decode cX3_takeOver 14 = .ok (.getfield 21, 3) := by decide +kernel
theorem dX3_takeOver_17 : decode cX3_takeOver 17 = .ok (.invokevirtual 25, 3) := by decide +kernel
theorem dX3_takeOver_20 : decode cX3_takeOver 20 = .ok (.return_, 1) := by decide +kernel
set_option maxRecDepth 20000 in
theorem ggX3_flip_X3_has : GoodIn wsX3_flip wsX3_has := goodIn_r _ [6, 7, 8, 9] (by decide +kernel) (by decide +kernel)
set_option maxRecDepth 20000 in
theorem gX3_flip_X3_has : GoodIn wsX3_flip (wsV RX3 35 RX3 yX3_has wsX3_has) := goodIn_app (goodIn_of _ (by decide +kernel)) ggX3_flip_X3_has
theorem dX3_flip_0 : decode cX3_flip 0 = .ok (.aload_n 0, 1) := by decide +kernel
theorem dX3_flip_1 : decode cX3_flip 1 = .ok (.iload_n 1, 1) := by decide +kernel
theorem dX3_flip_2 : decode cX3_flip 2 = .ok (.invokevirtual 35, 3) := by decide +kernel
theorem dX3_flip_5 : decode cX3_flip 5 = .ok (.ifCond .ne 5, 3) := by decide +kernel
theorem dX3_flip_8 : decode cX3_flip 8 = .ok (.iconst (-1), 1) := by decide +kernel
theorem dX3_flip_9 : decode cX3_flip 9 = .ok (.ireturn, 1) := by decide +kernel
theorem dX3_flip_10 : decode cX3_flip 10 = .ok (.aload_n 0, 1) := by decide +kernel
theorem dX3_flip_11 : decode cX3_flip 11 = .ok (.getfield 15, 3) := by decide +kernel
theorem dX3_flip_14 : decode cX3_flip 14 = .ok (.iload_n 1, 1) := by decide +kernel
theorem dX3_flip_15 : decode cX3_flip 15 = .ok (.dup2, 1) := by decide +kernel
theorem dX3_flip_16 : decode cX3_flip 16 = .ok (.iaload, 1) := by decide +kernel
theorem dX3_flip_17 : decode cX3_flip 17 = .ok (.iload_n 2, 1) := by decide +kernel
theorem dX3_flip_18 : decode cX3_flip 18 = .ok (.ixor, 1) := by decide +kernel
theorem dX3_flip_19 : decode cX3_flip 19 = .ok (.iastore, 1) := by decide +kernel
theorem dX3_flip_20 : decode cX3_flip 20 = .ok (.aload_n 0, 1) := by decide +kernel
theorem dX3_flip_21 : decode cX3_flip 21 = .ok (.getfield 15, 3) := by decide +kernel
theorem dX3_flip_24 : decode cX3_flip 24 = .ok (.iload_n 1, 1) := by decide +kernel
theorem dX3_flip_25 : decode cX3_flip 25 = .ok (.iaload, 1) := by decide +kernel
theorem dX3_flip_26 : decode cX3_flip 26 = .ok (.ireturn, 1) := by decide +kernel
theorem dX3_isSameAs_0 : decode cX3_isSameAs 0 = .ok (.aload_n 0, 1) := by decide +kernel
theorem dX3_isSameAs_1 : decode cX3_isSameAs 1 = .ok (.getfield 21, 3) := by decide +kernel
theorem dX3_isSameAs_4 : decode cX3_isSameAs 4 = .ok (.aload_n 1, 1) := by decide +kernel
theorem dX3_isSameAs_5 : decode cX3_isSameAs 5 = .ok (.getfield 21, 3) := by decide +kernel
theorem dX3_isSameAs_8 : decode cX3_isSameAs 8 = .ok (.if_icmp .eq 5, 3) := by decide +kernel
theorem dX3_isSameAs_11 : decode cX3_isSameAs 11 = .ok (.iconst 0, 1) := by decide +kernel
theorem dX3_isSameAs_12 : decode cX3_isSameAs 12 = .ok (.ireturn, 1) := by decide +kernel
theorem dX3_isSameAs_13 : decode cX3_isSameAs 13 = .ok (.iconst 0, 1) := by decide +kernel
theorem dX3_isSameAs_14 : decode cX3_isSameAs 14 = .ok (.istore_n 2, 1) := by decide +kernel
theorem dX3_isSameAs_15 : decode cX3_isSameAs 15 = .ok (.iload_n 2, 1) := by decide +kernel
theorem dX3_isSameAs_16 : decode cX3_isSameAs 16 = .ok (.aload_n 0, 1) := by decide +kernel
theorem dX3_isSameAs_17 : decode cX3_isSameAs 17 = .ok (.getfield 21, 3) := by decide +kernel
theorem dX3_isSameAs_20 : decode cX3_isSameAs 20 = .ok (.if_icmp .ge 26, 3) := by decide +kernel
theorem dX3_isSameAs_23 : decode cX3_isSameAs 23 = .ok (.aload_n 0, 1) := by decide +kernel
theorem dX3_isSameAs_24 : decode cX3_isSameAs 24 = .ok (.getfield 15, 3) := by decide +kernel
theorem dX3_isSameAs_27 : decode cX3_isSameAs 27 = .ok (.iload_n 2, 1) := by decide +kernel
theorem dX3_isSameAs_28 : decode cX3_isSameAs 28 = .ok (.iaload, 1) := by decide +kernel
theorem dX3_isSameAs_29 : decode cX3_isSameAs 29 = .ok (.aload_n 1, 1) := by decide +kernel
theorem dX3_isSameAs_30 : decode cX3_isSameAs 30 = .ok (.getfield 15, 3) := by decide +kernel
theorem dX3_isSameAs_33 : decode cX3_isSameAs 33 = .ok (.iload_n 2, 1) := by decide +kernel
theorem dX3_isSameAs_34 : decode cX3_isSameAs 34 = .ok (.iaload, 1) := by decide +kernel
theorem dX3_isSameAs_35 : decode cX3_isSameAs 35 = .ok (.if_icmp .eq 5, 3) := by decide +kernel
theorem dX3_isSameAs_38 : decode cX3_isSameAs 38 = .ok (.iconst 0, 1) := by decide +kernel
theorem dX3_isSameAs_39 : decode cX3_isSameAs 39 = .ok (.ireturn, 1) := by decide +kernel
theorem dX3_isSameAs_40 : decode cX3_isSameAs 40 = .ok (.iinc 2 1, 3) := by decide +kernel
theorem dX3_isSameAs_43 : decode cX3_isSameAs 43 = .ok (.goto (-28), 3) := by decide +kernel
theorem dX3_isSameAs_46 : decode cX3_isSameAs 46 = .ok (.iconst 1, 1) := by decide +kernel
theorem dX3_isSameAs_47 : decode cX3_isSameAs 47 = .ok (.ireturn, 1) := by decide +kernel
end
section
/-! THE WORLD: all cells that the law makes, numbered in the order in which they are made, at the addresses E.1, E.1 + 1 and on -/
abbrev En : Type := Nat × va_G × (Nat → ClassId)
abbrev Vt : Type := Nat → Nat → Int32
def tyE (E : En) : List (ClassId × FieldType) := [(E.2.2 9, .int), (E.2.2 10, .boolean), (E.2.2 11, .object "LimitTokens$Limit"), (E.2.2 12, .object "LimitTokens$Row"), (E.2.2 13, .object "LimitTokens$Token")]
abbrev KE (E : En) (U : State) : Prop := va_K E.2.1 vwCl (tyE E) U
def AE (E : En) : Nat → Prop := fun q => E.1 ≤ q
/-- the heap holds the n cells C -/
def Wc (E : En) (n : Nat) (C : Nat → va_E) (H : Heap) : Prop := H.size = E.1 + n ∧ ∀ k, k < n → va_at E.2.1 vwCl (E.1 + k, C k) H
theorem Wc.set {E : En} {n k : Nat} {C : Nat → va_E} {H H1 : Heap} {x : va_E} (h : Wc E n C H) (z : H1.size = H.size) (oq : ∀ q, q ≠ E.1 + k → H1[q]? = H[q]?) (hx : va_at E.2.1 vwCl (E.1 + k, x) H1) : Wc E n (va_up C k x) H1 := by
  refine ⟨z.trans h.1, fun j hj => ?_⟩
  by_cases e : j = k
  · subst e
    simpa [va_up] using hx
  · have := (h.2 j hj).kept (oq (E.1 + j) (by omega))
    simpa [va_up, e] using this
theorem Wc.push {E : En} {n : Nat} {C : Nat → va_E} {H H1 : Heap} {x : va_E} (h : Wc E n C H) (z : H1.size = E.1 + n + 1) (oq : ∀ q, q < E.1 + n → H1[q]? = H[q]?) (hx : va_at E.2.1 vwCl (E.1 + n, x) H1) : Wc E (n + 1) (va_up C n x) H1 := by
  refine ⟨by omega, fun j hj => ?_⟩
  by_cases e : j = n
  · subst e
    simpa [va_up] using hx
  · have := (h.2 j (by omega)).kept (oq (E.1 + j) (by omega))
    simpa [va_up, e] using this
theorem Wc.congr {E : En} {n : Nat} {C C' : Nat → va_E} {H : Heap} (h : Wc E n C H) (e : ∀ k, k < n → C k = C' k) : Wc E n C' H := ⟨h.1, fun k hk => by rw [← e k hk]; exact h.2 k hk⟩
section FWc
variable {p : Program} {l : Launch} {e : Env} {R : Room} {s : State} {m : MethodId} {args : Array Value} {below : List Frame} {meth : Method} {c : Code} {H : Heap} {locs : List Loc} {cells slots : Nat} {Q : State → Prop}
variable {cc : ByteArray} {pc : Nat} {ls : Array Slot} {rest : List Value} {E : En} {n : Nat} {C : Nat → va_E}
/-- getfield -/
theorem wc_get (hx : p.tables.exec = Jvm.exec) (hb : c.code = cc) {own ref Cn : String} {T : u_T} {N ci index : Nat} {Ts : List Cond} (hts : ∀ w ∈ Ts, w.before args s = true) (hin : ∀ w ∈ u_ws Cn T N, w ∈ Ts) (hown : s.vm.findClass own = some m.cls) (hK : KE E s) (hM : Wc E n C H) {k : Nat} (hk : k < n) {fs : List Value} (he : C k = .inr (ci, fs)) (hc : vwCl[ci]? = some (Cn, T, N)) (i : Nat) (hi : i < N) (hlink : (Cond.fieldLink own index ref (T i).2.1 (T i).2.2.1).before args s = true) (hsame : (T i).1 = ref) {v : Value} (hv : fs[i]? = some v) (hdg : decode cc pc = .ok (.getfield index, 3))
    (kk : W p l e R s m args below meth c H locs cells slots Q (F0 m (pc + 3) ls (v :: rest))) : W p l e R s m args below meth c H locs cells slots Q (F0 m pc ls (.ref (E.1 + k) :: rest)) := by
  have hP : va_P E.2.1 vwCl [(E.1 + k, .inr (ci, fs))] H := fun j q hj => by
    have hz : j < 1 := (List.getElem?_eq_some_iff.mp hj).1
    rw [show j = 0 by omega] at hj
    cases hj
    have := hM.2 k hk
    rw [he] at this
    exact this
  exact va_get hx hb hts hin hown hK hP 0 rfl hc i hi hlink (fun x h => by rw [← hsame]; exact h) hv hdg kk
/-- putfield of a field that isn't final -/
theorem wc_put (hx : p.tables.exec = Jvm.exec) (hb : c.code = cc) {own ref Cn : String} {T : u_T} {N ci index : Nat} {Ts : List Cond} (hts : ∀ w ∈ Ts, w.before args s = true) (hin : ∀ w ∈ u_ws Cn T N, w ∈ Ts) (ty0 : Nat → FieldType) (hty : ∀ k, k < N → parseFieldDescriptor (T k).2.2.1 = some (ty0 k)) (hnm : ∀ a, a < N → ∀ b, b < N → a ≠ b → (T a).2.1 ≠ (T b).2.1) (hown : s.vm.findClass own = some m.cls) (hK : KE E s) (hM : Wc E n C H) (hS : va_S (AE E) s.heap H locs) {k : Nat} (hk : k < n) {fs : List Value} (he : C k = .inr (ci, fs)) (hc : vwCl[ci]? = some (Cn, T, N)) (i : Nat) (hi : i < N) (hlink : (Cond.fieldLink own index ref (T i).2.1 (T i).2.2.1).before args s = true) (hsame : (T i).1 = ref) (hfin : (T i).2.2.2 = false) {v : Value} (hn : narrow (ty0 i) v = v) (hfit : fits (ty0 i) v = true) (hl : i < fs.length) (hdg : decode cc pc = .ok (.putfield index, 3))
    (kk : ∀ (H1 : Heap) (locs1 : List Loc), Wc E n (va_up C k (.inr (ci, fs.set i v))) H1 → va_S (AE E) s.heap H1 locs1 → W p l e R s m args below meth c H1 locs1 cells slots Q (F0 m (pc + 3) ls rest)) : W p l e R s m args below meth c H locs cells slots Q (F0 m pc ls (v :: .ref (E.1 + k) :: rest)) := by
  have hap := va_apart (own := own) hts hin ty0 hty hnm hK hc
  have h0 := hM.2 k hk
  rw [he] at h0
  obtain ⟨r, h1, cell, q1, q2, q3, q4⟩ := h0
  have hr : r = (Cn, T, N) := Option.some.inj (h1.symm.trans hc)
  subst hr
  obtain ⟨hSl, hfc, kC, hkC, hkind⟩ := hK.1 ci _ hc
  obtain ⟨cf, kf, fi, f, hi1, hsl⟩ := hSl i hi
  have hlay := hts _ (hin _ (u_in_lay hi))
  unfold u_lay at hlay
  rw [if_neg (by rw [hfin]; decide)] at hlay
  have hst := (u_facts hfc hkC (u_lays hts hin hi) hi1).1
  have h6 := u_store hfc hkC hkind hlay hi1 (hty i hi) hn hfit
  refine W.putK hx hb (f := f) ⟨hown, hlink, ⟨_, _, _, by rw [← hsame]; exact hi1⟩, hst⟩ (by rw [q2]; exact h6) q1 q3 (by rw [hsl]; exact k2_hasslot (q4 i hi)) rfl rfl hdg fun H' e1 e2 e3 => ?_
  rw [hsl] at e1 ⊢
  exact kk H' _ (hM.set e2 e3 ⟨_, hc, t_OB.to (V := updV (vp_V fs) i v) ⟨_, e1, q2, q3, t_set q4 hap hi v⟩ (fun j _ => vp_updV_set hl v j)⟩) (hS.put e2 e3 (Nat.le_add_right _ _))
/-- putfield of a final field, in a constructor -/
theorem wc_putF (hx : p.tables.exec = Jvm.exec) (hb : c.code = cc) {own ref Cn : String} {T : u_T} {N ci index : Nat} {Ts : List Cond} (hts : ∀ w ∈ Ts, w.before args s = true) (hin : ∀ w ∈ u_ws Cn T N, w ∈ Ts) (ty0 : Nat → FieldType) (hty : ∀ k, k < N → parseFieldDescriptor (T k).2.2.1 = some (ty0 k)) (hnm : ∀ a, a < N → ∀ b, b < N → a ≠ b → (T a).2.1 ≠ (T b).2.1) (hown : s.vm.findClass own = some m.cls) (hK : KE E s) (hM : Wc E n C H) (hS : va_S (AE E) s.heap H locs) {k : Nat} (hk : k < n) {fs : List Value} (he : C k = .inr (ci, fs)) (hc : vwCl[ci]? = some (Cn, T, N)) (i : Nat) (hi : i < N) (hlink : (Cond.fieldLink own index ref (T i).2.1 (T i).2.2.1).before args s = true) (hsame : (T i).1 = ref) (hfin : (T i).2.2.2 = true) (hin2 : meth.name = "<init>") (hdecl : ref = own) {v : Value} (hn : narrow (ty0 i) v = v) (hfit : fits (ty0 i) v = true) (hl : i < fs.length) (hdg : decode cc pc = .ok (.putfield index, 3))
    (kk : ∀ (H1 : Heap) (locs1 : List Loc), Wc E n (va_up C k (.inr (ci, fs.set i v))) H1 → va_S (AE E) s.heap H1 locs1 → W p l e R s m args below meth c H1 locs1 cells slots Q (F0 m (pc + 3) ls rest)) : W p l e R s m args below meth c H locs cells slots Q (F0 m pc ls (v :: .ref (E.1 + k) :: rest)) := by
  have hap := va_apart (own := own) hts hin ty0 hty hnm hK hc
  have h0 := hM.2 k hk
  rw [he] at h0
  obtain ⟨r, h1, cell, q1, q2, q3, q4⟩ := h0
  have hr : r = (Cn, T, N) := Option.some.inj (h1.symm.trans hc)
  subst hr
  obtain ⟨hSl, hfc, kC, hkC, hkind⟩ := hK.1 ci _ hc
  obtain ⟨cf, kf, fi, f, hi1, hsl⟩ := hSl i hi
  have hlay := hts _ (hin _ (u_in_lay hi))
  unfold u_lay at hlay
  rw [if_pos hfin] at hlay
  have hst := (u_facts hfc hkC (u_lays hts hin hi) hi1).1
  have hcf : m.cls = cf := by
    obtain ⟨_, _, c', _, _, _, -, -, hf', -, -, -, hown2, -⟩ := Cond.laysFinal_spec hlay
    have e1 : c' = cf := by have := hi1.symm.trans hf'; simp at this; exact this.1.symm
    rw [hsame, hdecl] at hown2
    rw [← e1]; exact Option.some.inj (hown.symm.trans hown2)
  have h6 := u_fits hfc hkC hkind (Or.inr hlay) hi1 (hty i hi) hn hfit
  refine W.putFinK hx hb hown hlink (by rw [← hsame]; exact hi1) hst hcf hin2 (by rw [q2]; exact h6) q1 q3 (by rw [hsl]; exact k2_hasslot (q4 i hi)) rfl rfl hdg fun H' e1 e2 e3 => ?_
  rw [hsl] at e1 ⊢
  exact kk H' _ (hM.set e2 e3 ⟨_, hc, t_OB.to (V := updV (vp_V fs) i v) ⟨_, e1, q2, q3, t_set q4 hap hi v⟩ (fun j _ => vp_updV_set hl v j)⟩) (hS.put e2 e3 (Nat.le_add_right _ _))
theorem KE.i (hK : KE E s) : ArrOfT s (E.2.2 9) .int := (hK.2 0 _ rfl).1
theorem KE.z (hK : KE E s) : ArrOfT s (E.2.2 10) .boolean := (hK.2 1 _ rfl).1
theorem Wc.arr {E : En} {n : Nat} {C : Nat → va_E} {H : Heap} (hM : Wc E n C H) {k : Nat} (hk : k < n) {x : ClassId × vp_A} (he : C k = .inl x) : H[E.1 + k]? = some (vp_cell x.1 x.2) := by
  have h0 := hM.2 k hk
  rw [he] at h0
  exact h0
/-- iaload -/
theorem wc_ild (hx : p.tables.exec = Jvm.exec) (hb : c.code = cc) (hK : KE E s) (hM : Wc E n C H) {k : Nat} (hk : k < n) {N : Nat} {f : Nat → Int32} (he : C k = .inl (E.2.2 9, N, .inl f)) {i : Int32} (hin : vp_in i N) (hdg : decode cc pc = .ok (.iaload, 1))
    (kk : W p l e R s m args below meth c H locs cells slots Q (F0 m (pc + 1) ls (.int (f i.toNatClampNeg) :: rest))) : W p l e R s m args below meth c H locs cells slots Q (F0 m pc ls (.int i :: .ref (E.1 + k) :: rest)) := by
  have hP : va_P E.2.1 vwCl [(E.1 + k, .inl (E.2.2 9, N, .inl f))] H := fun j q hj => by
    have hz : j < 1 := (List.getElem?_eq_some_iff.mp hj).1
    rw [show j = 0 by omega] at hj
    cases hj
    exact hM.arr hk he
  exact va_iald hx hb hK hP 0 0 rfl rfl hin hdg kk
/-- baload of a boolean row -/
theorem wc_zld (hx : p.tables.exec = Jvm.exec) (hb : c.code = cc) (hK : KE E s) (hM : Wc E n C H) {k : Nat} (hk : k < n) {N : Nat} {f : Nat → Int32} (he : C k = .inl (E.2.2 10, N, .inl f)) {i : Int32} (hin : vp_in i N) (hdg : decode cc pc = .ok (.baload, 1))
    (kk : W p l e R s m args below meth c H locs cells slots Q (F0 m (pc + 1) ls (.int (f i.toNatClampNeg) :: rest))) : W p l e R s m args below meth c H locs cells slots Q (F0 m pc ls (.int i :: .ref (E.1 + k) :: rest)) := by
  have hP : va_P E.2.1 vwCl [(E.1 + k, .inl (E.2.2 10, N, .inl f))] H := fun j q hj => by
    have hz : j < 1 := (List.getElem?_eq_some_iff.mp hj).1
    rw [show j = 0 by omega] at hj
    cases hj
    exact hM.arr hk he
  exact va_zald hx hb hK hP 0 1 rfl rfl hin hdg kk
/-- iastore -/
theorem wc_ist (hx : p.tables.exec = Jvm.exec) (hb : c.code = cc) (hK : KE E s) (hM : Wc E n C H) (hS : va_S (AE E) s.heap H locs) {k : Nat} (hk : k < n) {N : Nat} {f : Nat → Int32} (he : C k = .inl (E.2.2 9, N, .inl f)) {i x : Int32} (hin : vp_in i N) (hdg : decode cc pc = .ok (.iastore, 1))
    (kk : ∀ (H1 : Heap) (locs1 : List Loc), Wc E n (va_up C k (.inl (E.2.2 9, N, .inl (upd f i.toNatClampNeg x)))) H1 → va_S (AE E) s.heap H1 locs1 → W p l e R s m args below meth c H1 locs1 cells slots Q (F0 m (pc + 1) ls rest)) : W p l e R s m args below meth c H locs cells slots Q (F0 m pc ls (.int x :: .int i :: .ref (E.1 + k) :: rest)) := by
  refine W.iast hx hb (hM.arr hk he) (hK.i N (fun j => .int (f j))) (fun q => by cases q) (by show ¬ (i < 0 ∨ (arrV _ _ _).slots.size ≤ _); rw [arrV_size]; exact hin) rfl rfl hdg fun H1 e1 z oq => ?_
  refine kk H1 _ (hM.set z oq ?_) (hS.put z oq (Nat.le_add_right _ _))
  show H1[E.1 + k]? = some (vp_cell _ _)
  rw [e1]
  show some ((vp_cell (E.2.2 9) (N, .inl f)).setSlot _ _) = _
  rw [vp_cell_i, vp_cell_i, arrV_store]
  congr 2
  funext q
  by_cases hq : q = i.toNatClampNeg
  · subst hq; simp [updV, upd]
  · simp [updV, upd, hq]
/-- bastore into a boolean row -/
theorem wc_zst (hx : p.tables.exec = Jvm.exec) (hb : c.code = cc) (hK : KE E s) (hM : Wc E n C H) (hS : va_S (AE E) s.heap H locs) {k : Nat} (hk : k < n) {N : Nat} {f : Nat → Int32} (he : C k = .inl (E.2.2 10, N, .inl f)) {i x : Int32} (hin : vp_in i N) (hbx : vp_nar .boolean x = x) (hdg : decode cc pc = .ok (.bastore, 1))
    (kk : ∀ (H1 : Heap) (locs1 : List Loc), Wc E n (va_up C k (.inl (E.2.2 10, N, .inl (upd f i.toNatClampNeg x)))) H1 → va_S (AE E) s.heap H1 locs1 → W p l e R s m args below meth c H1 locs1 cells slots Q (F0 m (pc + 1) ls rest)) : W p l e R s m args below meth c H locs cells slots Q (F0 m pc ls (.int x :: .int i :: .ref (E.1 + k) :: rest)) := by
  refine W.zast hx hb (hM.arr hk he) (hK.z N (fun j => .int (f j))) (fun q => by cases q) (by show ¬ (i < 0 ∨ (arrV _ _ _).slots.size ≤ _); rw [arrV_size]; exact hin) rfl rfl hdg fun H1 e1 z oq => ?_
  refine kk H1 _ (hM.set z oq ?_) (hS.put z oq (Nat.le_add_right _ _))
  show H1[E.1 + k]? = some (vp_cell _ _)
  rw [e1]
  show some ((vp_cell (E.2.2 10) (N, .inl f)).setSlot _ _) = _
  rw [vp_cell_i, vp_cell_i, arrV_store]
  have hnx : narrow .boolean (.int x) = .int x := by
    have : narrow .boolean (.int x) = .int (vp_nar .boolean x) := by simp [vp_nar, narrow]
    rw [this, hbx]
  rw [hnx]
  congr 2
  funext q
  by_cases hq : q = i.toNatClampNeg
  · subst hq; simp [updV, upd]
  · simp [updV, upd, hq]
/-- aaload -/
theorem wc_ald (hx : p.tables.exec = Jvm.exec) (hb : c.code = cc) (hK : KE E s) (hM : Wc E n C H) {k : Nat} (hk : k < n) {N t0 : Nat} {cA : ClassId} {Cn : String} (ht : (tyE E)[t0]? = some (cA, .object Cn)) {f : Nat → Option Nat} (he : C k = .inl (cA, N, .inr (.inr (.inr (.inr f))))) {i : Int32} (hin : vp_in i N) {j : Nat} (hj : f i.toNatClampNeg = some j) (hdg : decode cc pc = .ok (.aaload, 1))
    (kk : W p l e R s m args below meth c H locs cells slots Q (F0 m (pc + 1) ls (.ref j :: rest))) : W p l e R s m args below meth c H locs cells slots Q (F0 m pc ls (.int i :: .ref (E.1 + k) :: rest)) := by
  have hP : va_P E.2.1 vwCl [(E.1 + k, .inl (cA, N, .inr (.inr (.inr (.inr f)))))] H := fun j q hj => by
    have hz : j < 1 := (List.getElem?_eq_some_iff.mp hj).1
    rw [show j = 0 by omega] at hj
    cases hj
    exact hM.arr hk he
  refine va_aldq hx hb hK hP 0 t0 rfl ht hin hdg ?_
  rw [hj]
  exact kk
/-- arraylength -/
theorem wc_len (hx : p.tables.exec = Jvm.exec) (hb : c.code = cc) (hK : KE E s) (hM : Wc E n C H) {k : Nat} (hk : k < n) {t0 : Nat} {cA : ClassId} {ty : FieldType} (ht : (tyE E)[t0]? = some (cA, ty)) {x : vp_A} (he : C k = .inl (cA, x)) (hdg : decode cc pc = .ok (.arraylength, 1))
    (kk : W p l e R s m args below meth c H locs cells slots Q (F0 m (pc + 1) ls (.int (nI x.1) :: rest))) : W p l e R s m args below meth c H locs cells slots Q (F0 m pc ls (.ref (E.1 + k) :: rest)) := by
  have hP : va_P E.2.1 vwCl [(E.1 + k, .inl (cA, x))] H := fun j q hj => by
    have hz : j < 1 := (List.getElem?_eq_some_iff.mp hj).1
    rw [show j = 0 by omega] at hj
    cases hj
    exact hM.arr hk he
  exact va_alen hx hb hK hP 0 t0 rfl ht rfl hdg kk
end FWc
end
section
/-! THE LAYOUT: what each of the 610 cells is, once both constructors are through. Kinds 0 .. 8: an object of that class (vwCl); 9 int[], 10 boolean[], 11 Limit[], 12 Row[], 13 Token[] -/
/-- a token's cells from its own on: itself, name, sign, the row of limits, ten limits of five cells -/
def tkK (r : Nat) : Nat := if r = 0 then 6 else if r = 1 ∨ r = 3 then 3 else if r = 2 ∨ r = 4 then 9 else if r = 5 then 11 else if (r - 6) % 5 = 0 then 1 else if (r - 6) % 5 = 1 ∨ (r - 6) % 5 = 3 then 3 else 9
def tkN (r : Nat) : Nat := if r = 0 then 5 else if r = 1 ∨ r = 3 then 2 else if r = 2 then 60 else if r = 4 then 32 else if r = 5 then 10 else if (r - 6) % 5 = 0 then 2 else if (r - 6) % 5 = 1 ∨ (r - 6) % 5 = 3 then 2 else if (r - 6) % 5 = 2 then 60 else 32
def tkF (b r i : Nat) : Option Nat := if r = 0 then (if i = 0 then some (b + 1) else if i = 1 then some (b + 3) else if i = 2 then some (b + 5) else none) else if r = 1 ∨ r = 3 then (if i = 0 then some (b + r + 1) else none) else if r = 2 ∨ r = 4 then none else if r = 5 then (if i < 10 then some (b + 6 + 5 * i) else none) else if (r - 6) % 5 = 0 then (if i = 0 then some (b + r + 1) else if i = 1 then some (b + r + 3) else none) else if (r - 6) % 5 = 1 ∨ (r - 6) % 5 = 3 then (if i = 0 then some (b + r + 1) else none) else none
/-- the fixed cells ahead of the tokens -/
def fxK (k : Nat) : Nat := match k with
  | 0 => 7 | 1 => 12 | 2 => 2 | 3 => 13 | 4 => 4 | 5 => 9 | 6 => 9 | 21 => 0 | 22 => 9 | 23 => 12 | 24 => 12
  | k => if k % 2 = 1 then 3 else 9
def fxN (k : Nat) : Nat := match k with
  | 0 => 9 | 1 => 8 | 2 => 11 | 3 => 8 | 4 => 9 | 5 => 8 | 6 => 64 | 21 => 2 | 22 => 8 | 23 => 8 | 24 => 8 | 8 => 256 | 10 => 64 | 12 => 32 | 14 => 64 | 16 => 32 | 18 => 32 | 20 => 32
  | _ => 2
def fxF (k i : Nat) : Option Nat := match k with
  | 0 => match i with | 0 => some 1 | 1 => some 2 | 2 => some 505 | 3 => some 508 | 4 => some 3 | 5 => some 4 | 6 => some 21 | 7 => some 22 | 8 => some 506 | _ => none
  | 1 => if i < 8 then some (564 + 2 * i) else none
  | 2 => match i with | 0 => some 3 | 1 => some 4 | 2 => some 21 | 3 => some 23 | 4 => some 24 | _ => none
  | 3 => if i < 8 then some (25 + 60 * i) else none
  | 4 => match i with | 0 => some 5 | 1 => some 6 | 2 => some 7 | 3 => some 9 | 4 => some 11 | 5 => some 13 | 6 => some 15 | 7 => some 17 | 8 => some 19 | _ => none
  | 5 => none | 6 => none
  | 21 => if i = 0 then some 22 else none
  | 22 => none
  | 23 => if i < 8 then some (81 + 60 * i) else none
  | 24 => if i < 8 then some (83 + 60 * i) else none
  | k => if k % 2 = 1 then (if i = 0 then some (k + 1) else none) else none
/-- the model's cells from 580 on -/
def mdK (r : Nat) : Nat := if r = 0 then 8 else if r = 16 ∨ r = 22 ∨ r = 29 then 10 else 9
def mdN (r : Nat) : Nat := match r with
  | 0 => 42 | 1 => 8 | 2 => 64 | 3 => 8 | 4 => 64 | 5 => 8 | 6 => 400 | 7 => 32 | 8 => 100 | 9 => 200 | 10 => 32 | 11 => 32 | 12 => 32 | 13 => 800 | 14 => 8 | 15 => 1200 | 16 => 9 | 17 => 9 | 18 => 540 | 19 => 9 | 20 => 90 | 21 => 5400 | 22 => 90 | 23 => 2880 | 24 => 288 | 25 => 8 | 26 => 9 | 27 => 9 | 28 => 288 | _ => 8
def mdF (r i : Nat) : Option Nat := if r = 0 then (match i with
  | 1 => some 581 | 2 => some 582 | 3 => some 583 | 4 => some 584 | 5 => some 585 | 6 => some 586 | 8 => some 587 | 9 => some 588 | 11 => some 589 | 13 => some 590 | 14 => some 591 | 15 => some 592 | 16 => some 593 | 17 => some 594 | 18 => some 595 | 21 => some 596 | 22 => some 597 | 23 => some 598 | 24 => some 599 | 25 => some 600 | 26 => some 601 | 27 => some 602 | 28 => some 603 | 29 => some 604 | 30 => some 605 | 32 => some 606 | 33 => some 607 | 34 => some 608 | 35 => some 609 | _ => none) else none
def sk (k : Nat) : Nat := if k < 25 then fxK k else if k < 505 then (if (k - 25) % 60 < 56 then tkK ((k - 25) % 60) else if (k - 25) % 2 = 0 then 3 else 9) else if k = 505 then 5 else if k = 506 then 3 else if k = 507 then 9 else if k < 564 then tkK (k - 508) else if k < 580 then (if k % 2 = 0 then 3 else 9) else mdK (k - 580)
def sn (k : Nat) : Nat := if k < 25 then fxN k else if k < 505 then (if (k - 25) % 60 < 56 then tkN ((k - 25) % 60) else if (k - 25) % 2 = 0 then 2 else 32) else if k = 505 then 4 else if k = 506 then 2 else if k = 507 then 1200 else if k < 564 then tkN (k - 508) else if k < 580 then (if k % 2 = 0 then 2 else 100) else mdN (k - 580)
def sf (k i : Nat) : Option Nat := if k < 25 then fxF k i else if k < 505 then (if (k - 25) % 60 < 56 then tkF (k - (k - 25) % 60) ((k - 25) % 60) i else if (k - 25) % 2 = 0 then (if i = 0 then some (k + 1) else none) else none) else if k = 505 then (if i = 0 then some 506 else none) else if k = 506 then (if i = 0 then some 507 else none) else if k = 507 then none else if k < 564 then tkF 508 (k - 508) i else if k < 580 then (if k % 2 = 0 then (if i = 0 then some (k + 1) else none) else none) else mdF (k - 580) i
/-- the value of a field: a fixed reference, or a number -/
def fv (E : En) (V : Vt) (k i : Nat) : Value := match sf k i with
  | some j => .ref (E.1 + j)
  | none => .int (V k i)
def cont (E : En) (V : Vt) (k : Nat) : va_E :=
  if sk k ≤ 8 then .inr (sk k, (List.range (sn k)).map (fv E V k))
  else if sk k ≤ 10 then .inl (E.2.2 (sk k), sn k, .inl (V k))
  else .inl (E.2.2 (sk k), sn k, .inr (.inr (.inr (.inr (fun i => (sf k i).map (fun j => E.1 + j))))))
def Wd (E : En) (V : Vt) (H : Heap) : Prop := Wc E 610 (cont E V) H
def up2 (V : Vt) (k i : Nat) (x : Int32) : Vt := va_up V k (upd (V k) i x)
theorem cont_obj (E : En) (V : Vt) {k : Nat} (h : sk k ≤ 8) : cont E V k = .inr (sk k, (List.range (sn k)).map (fv E V k)) := by simp [cont, h]
theorem cont_arr (E : En) (V : Vt) {k : Nat} (h : sk k = 9 ∨ sk k = 10) : cont E V k = .inl (E.2.2 (sk k), sn k, .inl (V k)) := by
  rcases h with h | h <;> simp [cont, h]
theorem cont_ref (E : En) (V : Vt) {k : Nat} (h : 10 < sk k) : cont E V k = .inl (E.2.2 (sk k), sn k, .inr (.inr (.inr (.inr (fun i => (sf k i).map (fun j => E.1 + j)))))) := by
  simp [cont, show ¬ sk k ≤ 8 by omega, show ¬ sk k ≤ 10 by omega]
theorem cont_ext (E : En) {V V' : Vt} {k : Nat} (h : V k = V' k) : cont E V k = cont E V' k := by
  have : fv E V k = fv E V' k := by funext i; simp [fv, h]
  simp only [cont, h, this]
theorem cont_put (E : En) (V : Vt) {k i : Nat} (h : sk k ≤ 8) (hi : i < sn k) (hf : sf k i = none) (x : Int32) : va_up (cont E V) k (.inr (sk k, ((List.range (sn k)).map (fv E V k)).set i (.int x))) = cont E (up2 V k i x) := by
  funext j
  by_cases e : j = k
  · subst e
    rw [cont_obj E _ h]
    simp only [va_up, if_true]
    congr 2
    apply List.ext_getElem?
    intro a
    rw [List.getElem?_set, List.getElem?_map, List.getElem?_map]
    by_cases ha : i = a
    · subst ha
      simp [hi, fv, hf, up2, va_up, upd]
    · simp only [ha, if_false]
      by_cases hb : a < sn j
      · simp [List.getElem?_range, hb, fv, up2, va_up, upd, Ne.symm ha]
      · simp [List.getElem?_range, hb]
  · have h1 : cont E (up2 V k i x) j = cont E V j := cont_ext E (by simp [up2, va_up, e])
    rw [h1]
    simp [va_up, e]
theorem cont_st (E : En) (V : Vt) {k : Nat} (h : sk k = 9 ∨ sk k = 10) (i : Nat) (x : Int32) : va_up (cont E V) k (.inl (E.2.2 (sk k), sn k, .inl (upd (V k) i x))) = cont E (up2 V k i x) := by
  funext j
  by_cases e : j = k
  · subst e
    rw [cont_arr E _ h]
    simp [va_up, up2]
  · have h1 : cont E (up2 V k i x) j = cont E V j := cont_ext E (by simp [up2, va_up, e])
    rw [h1]
    simp [va_up, e]
section FWd
variable {p : Program} {l : Launch} {e : Env} {R : Room} {s : State} {m : MethodId} {args : Array Value} {below : List Frame} {meth : Method} {c : Code} {H : Heap} {locs : List Loc} {cells slots : Nat} {Q : State → Prop}
variable {cc : ByteArray} {pc : Nat} {ls : Array Slot} {rest : List Value} {E : En} {V : Vt}
/-- getfield of a number -/
theorem w_gi {own ref Cn : String} {T : u_T} {N index : Nat} {Ts : List Cond} (ci i : Nat) (hx : p.tables.exec = Jvm.exec) (hb : c.code = cc) (hts : ∀ w ∈ Ts, w.before args s = true) (hin : ∀ w ∈ u_ws Cn T N, w ∈ Ts) (hown : s.vm.findClass own = some m.cls) (hK : KE E s) (hM : Wd E V H) {k : Nat} (hk : k < 610) (hs : sk k = ci) (hn : sn k = N) (hf : sf k i = none) (h8 : ci ≤ 8) (hc : vwCl[ci]? = some (Cn, T, N)) (hi : i < N) (hlink : (Cond.fieldLink own index ref (T i).2.1 (T i).2.2.1).before args s = true) (hsame : (T i).1 = ref) (hdg : decode cc pc = .ok (.getfield index, 3))
    (kk : W p l e R s m args below meth c H locs cells slots Q (F0 m (pc + 3) ls (.int (V k i) :: rest))) : W p l e R s m args below meth c H locs cells slots Q (F0 m pc ls (.ref (E.1 + k) :: rest)) := by
  subst hs
  refine wc_get hx hb hts hin hown hK hM hk (cont_obj E V h8) hc i hi hlink hsame (v := .int (V k i)) ?_ hdg kk
  simp [List.getElem?_range, hn, hi, fv, hf]
/-- getfield of a reference -/
theorem w_gr {own ref Cn : String} {T : u_T} {N index : Nat} {Ts : List Cond} (ci i j : Nat) (hx : p.tables.exec = Jvm.exec) (hb : c.code = cc) (hts : ∀ w ∈ Ts, w.before args s = true) (hin : ∀ w ∈ u_ws Cn T N, w ∈ Ts) (hown : s.vm.findClass own = some m.cls) (hK : KE E s) (hM : Wd E V H) {k : Nat} (hk : k < 610) (hs : sk k = ci) (hn : sn k = N) (hf : sf k i = some j) (h8 : ci ≤ 8) (hc : vwCl[ci]? = some (Cn, T, N)) (hi : i < N) (hlink : (Cond.fieldLink own index ref (T i).2.1 (T i).2.2.1).before args s = true) (hsame : (T i).1 = ref) (hdg : decode cc pc = .ok (.getfield index, 3))
    (kk : W p l e R s m args below meth c H locs cells slots Q (F0 m (pc + 3) ls (.ref (E.1 + j) :: rest))) : W p l e R s m args below meth c H locs cells slots Q (F0 m pc ls (.ref (E.1 + k) :: rest)) := by
  subst hs
  refine wc_get hx hb hts hin hown hK hM hk (cont_obj E V h8) hc i hi hlink hsame (v := .ref (E.1 + j)) ?_ hdg kk
  simp [List.getElem?_range, hn, hi, fv, hf]
/-- putfield of a number -/
theorem w_pi {own ref Cn : String} {T : u_T} {N index : Nat} {Ts : List Cond} (ci i : Nat) (hx : p.tables.exec = Jvm.exec) (hb : c.code = cc) (hts : ∀ w ∈ Ts, w.before args s = true) (hin : ∀ w ∈ u_ws Cn T N, w ∈ Ts) (ty0 : Nat → FieldType) (hty : ∀ k, k < N → parseFieldDescriptor (T k).2.2.1 = some (ty0 k)) (hnm : ∀ a, a < N → ∀ b, b < N → a ≠ b → (T a).2.1 ≠ (T b).2.1) (hown : s.vm.findClass own = some m.cls) (hK : KE E s) (hM : Wd E V H) (hS : va_S (AE E) s.heap H locs) {k : Nat} (hk : k < 610) (hs : sk k = ci) (hn : sn k = N) (hf : sf k i = none) (h8 : ci ≤ 8) (hc : vwCl[ci]? = some (Cn, T, N)) (hi : i < N) (hlink : (Cond.fieldLink own index ref (T i).2.1 (T i).2.2.1).before args s = true) (hsame : (T i).1 = ref) (hfin : (T i).2.2.2 = false) {x : Int32} (hnr : narrow (ty0 i) (.int x) = .int x) (hfit : fits (ty0 i) (.int x) = true) (hdg : decode cc pc = .ok (.putfield index, 3))
    (kk : ∀ (H1 : Heap) (locs1 : List Loc), Wd E (up2 V k i x) H1 → va_S (AE E) s.heap H1 locs1 → W p l e R s m args below meth c H1 locs1 cells slots Q (F0 m (pc + 3) ls rest)) : W p l e R s m args below meth c H locs cells slots Q (F0 m pc ls (.int x :: .ref (E.1 + k) :: rest)) := by
  subst hs
  refine wc_put hx hb hts hin ty0 hty hnm hown hK hM hS hk (cont_obj E V h8) hc i hi hlink hsame hfin hnr hfit (by simp [hn, hi]) hdg fun H1 locs1 h1 h2 => kk H1 locs1 ?_ h2
  rw [cont_put E V h8 (by rw [hn]; exact hi) hf] at h1
  exact h1
theorem w_ild (hx : p.tables.exec = Jvm.exec) (hb : c.code = cc) (hK : KE E s) (hM : Wd E V H) {k N : Nat} (hk : k < 610) (hs : sk k = 9) (hn : sn k = N) {i : Int32} (hin : vp_in i N) (hdg : decode cc pc = .ok (.iaload, 1))
    (kk : W p l e R s m args below meth c H locs cells slots Q (F0 m (pc + 1) ls (.int (V k i.toNatClampNeg) :: rest))) : W p l e R s m args below meth c H locs cells slots Q (F0 m pc ls (.int i :: .ref (E.1 + k) :: rest)) := by
  subst hn
  refine wc_ild hx hb hK hM hk (f := V k) ?_ hin hdg kk
  rw [cont_arr E V (Or.inl hs), hs]
theorem w_zld (hx : p.tables.exec = Jvm.exec) (hb : c.code = cc) (hK : KE E s) (hM : Wd E V H) {k N : Nat} (hk : k < 610) (hs : sk k = 10) (hn : sn k = N) {i : Int32} (hin : vp_in i N) (hdg : decode cc pc = .ok (.baload, 1))
    (kk : W p l e R s m args below meth c H locs cells slots Q (F0 m (pc + 1) ls (.int (V k i.toNatClampNeg) :: rest))) : W p l e R s m args below meth c H locs cells slots Q (F0 m pc ls (.int i :: .ref (E.1 + k) :: rest)) := by
  subst hn
  refine wc_zld hx hb hK hM hk (f := V k) ?_ hin hdg kk
  rw [cont_arr E V (Or.inr hs), hs]
theorem w_ist (hx : p.tables.exec = Jvm.exec) (hb : c.code = cc) (hK : KE E s) (hM : Wd E V H) (hS : va_S (AE E) s.heap H locs) {k N : Nat} (hk : k < 610) (hs : sk k = 9) (hn : sn k = N) {i x : Int32} (hin : vp_in i N) (hdg : decode cc pc = .ok (.iastore, 1))
    (kk : ∀ (H1 : Heap) (locs1 : List Loc), Wd E (up2 V k i.toNatClampNeg x) H1 → va_S (AE E) s.heap H1 locs1 → W p l e R s m args below meth c H1 locs1 cells slots Q (F0 m (pc + 1) ls rest)) : W p l e R s m args below meth c H locs cells slots Q (F0 m pc ls (.int x :: .int i :: .ref (E.1 + k) :: rest)) := by
  subst hn
  refine wc_ist hx hb hK hM hS hk (f := V k) (by rw [cont_arr E V (Or.inl hs), hs]) hin hdg fun H1 locs1 h1 h2 => kk H1 locs1 ?_ h2
  have := cont_st E V (Or.inl hs) i.toNatClampNeg x
  rw [hs] at this
  rw [this] at h1
  exact h1
theorem w_zst (hx : p.tables.exec = Jvm.exec) (hb : c.code = cc) (hK : KE E s) (hM : Wd E V H) (hS : va_S (AE E) s.heap H locs) {k N : Nat} (hk : k < 610) (hs : sk k = 10) (hn : sn k = N) {i x : Int32} (hin : vp_in i N) (hbx : vp_nar .boolean x = x) (hdg : decode cc pc = .ok (.bastore, 1))
    (kk : ∀ (H1 : Heap) (locs1 : List Loc), Wd E (up2 V k i.toNatClampNeg x) H1 → va_S (AE E) s.heap H1 locs1 → W p l e R s m args below meth c H1 locs1 cells slots Q (F0 m (pc + 1) ls rest)) : W p l e R s m args below meth c H locs cells slots Q (F0 m pc ls (.int x :: .int i :: .ref (E.1 + k) :: rest)) := by
  subst hn
  refine wc_zst hx hb hK hM hS hk (f := V k) (by rw [cont_arr E V (Or.inr hs), hs]) hin hbx hdg fun H1 locs1 h1 h2 => kk H1 locs1 ?_ h2
  have := cont_st E V (Or.inr hs) i.toNatClampNeg x
  rw [hs] at this
  rw [this] at h1
  exact h1
theorem w_ald (t0 : Nat) (hx : p.tables.exec = Jvm.exec) (hb : c.code = cc) (hK : KE E s) (hM : Wd E V H) {k N : Nat} (hk : k < 610) {Cn : String} (ht : (tyE E)[t0]? = some (E.2.2 (sk k), .object Cn)) (hs : 10 < sk k) (hn : sn k = N) {i : Int32} (hin : vp_in i N) (j : Nat) (hj : sf k i.toNatClampNeg = some j) (hdg : decode cc pc = .ok (.aaload, 1))
    (kk : W p l e R s m args below meth c H locs cells slots Q (F0 m (pc + 1) ls (.ref (E.1 + j) :: rest))) : W p l e R s m args below meth c H locs cells slots Q (F0 m pc ls (.int i :: .ref (E.1 + k) :: rest)) := by
  subst hn
  refine wc_ald hx hb hK hM hk ht (cont_ref E V hs) hin (j := E.1 + j) ?_ hdg kk
  simp [hj]
theorem w_len (hx : p.tables.exec = Jvm.exec) (hb : c.code = cc) (hK : KE E s) (hM : Wd E V H) {k N : Nat} (hk : k < 610) (hs : sk k = 9) (hn : sn k = N) (hdg : decode cc pc = .ok (.arraylength, 1))
    (kk : W p l e R s m args below meth c H locs cells slots Q (F0 m (pc + 1) ls (.int (nI N) :: rest))) : W p l e R s m args below meth c H locs cells slots Q (F0 m pc ls (.ref (E.1 + k) :: rest)) := by
  subst hn
  refine wc_len (t0 := 0) (ty := .int) hx hb hK hM hk (x := (sn k, .inl (V k))) rfl ?_ hdg kk
  rw [cont_arr E V (Or.inl hs), hs]
theorem lv_eqi {x y : Int32} (h : x = y) (k : W p l e R s m args below meth c H locs cells slots Q (F0 m pc ls (.int y :: rest))) : W p l e R s m args below meth c H locs cells slots Q (F0 m pc ls (.int x :: rest)) := h ▸ k
end FWd
end
section
/-! CONTRACTS over a world: what a method is given and gives back; calls; the two tables of the sealer -/
def sqT : List Int32 := [1779033703, -1150833019, 1013904242, -1521486534, 1359893119, -1694144372, 528734635, 1541459225]
def cuT : List Int32 := [1116352408, 1899447441, -1245643825, -373957723, 961987163, 1508970993, -1841331548, -1424204075, -670586216, 310598401, 607225278, 1426881987, 1925078388, -2132889090, -1680079193, -1046744716, -459576895, -272742522, 264347078, 604807628, 770255983, 1249150122, 1555081692, 1996064986, -1740746414, -1473132947, -1341970488, -1084653625, -958395405, -710438585, 113926993, 338241895, 666307205, 773529912, 1294757372, 1396182291, 1695183700, 1986661051, -2117940946, -1838011259, -1564481375, -1474664885, -1035236496, -949202525, -778901479, -694614492, -200395387, 275423344, 430227734, 506948616, 659060556, 883997877, 958139571, 1322822218, 1537002063, 1747873779, 1955562222, 2024104815, -2067236844, -1933114872, -1866530822, -1538233109, -1090935817, -965641998]
def STE (E : En) (U : State) (H : Heap) : Prop := ∃ t1 t2 : Nat, va_Z RX4 "SQUARE_ROOTS" "[I" (.ref t1) (AE E) U H ∧ va_T .int t1 8 (fun j => .int (sqT.getD j 0)) (AE E) U H ∧ va_Z RX4 "CUBE_ROOTS" "[I" (.ref t2) (AE E) U H ∧ va_T .int t2 64 (fun j => .int (cuT.getD j 0)) (AE E) U H
def KX (E : En) (U : State) : Prop := KE E U ∧ STE E U U.heap
theorem STE.moved {E : En} {u U : State} {H : Heap} (hvm : u.vm.Alike U.vm) (h : STE E u H) : STE E U H := by
  obtain ⟨t1, t2, h1, h2, h3, h4⟩ := h
  exact ⟨t1, t2, h1.moved hvm, h2.moved hvm, h3.moved hvm, h4.moved hvm⟩
theorem STE.kept {E : En} {U : State} {H H1 : Heap} (h : STE E U H) (hq : ∀ a : Nat, a < H.size → ¬ AE E a → H1[a]? = H[a]?) : STE E U H1 := by
  obtain ⟨t1, t2, h1, h2, h3, h4⟩ := h
  exact ⟨t1, t2, h1.kept hq, h2.kept hq, h3.kept hq, h4.kept hq⟩
theorem KX.go {E : En} {s t : State} {H : Heap} {locs : List Loc} (h : KX E s) (hS : va_S (AE E) s.heap H locs) (ht : t.heap = H) (hvm : s.vm.Alike t.vm) : KX E t :=
  ⟨va_K.moved hvm h.1, by rw [ht]; exact (h.2.moved hvm).kept hS.2.1⟩
/-- a method's start: its arguments, the world X, the tables -/
def PG (E : En) (X : Heap → Prop) (av : List Value) : Array Value → State → Prop := va_Pc av (fun U => X U.heap ∧ KX E U)
theorem PG.blind {E : En} {X : Heap → Prop} {av : List Value} : FrameBlind (PG E X av) := by
  intro a U g mk h
  obtain ⟨h1, h2, h3, h4⟩ := h
  exact ⟨h1, h2, va_K.moved (u := U) (U := U.calling g mk a) (Vm.Alike.refl U.vm) h3, STE.moved (u := U) (U := U.calling g mk a) (Vm.Alike.refl U.vm) h4⟩
def QI (E : En) {S : Type} (X : S → Heap → Prop) (post : Int32 → S → Prop) : Array Value → State → Outcome → State → Prop := va_Qi post (fun u t => X u t.heap ∧ KX E t) (AE E)
def QV (E : En) {S : Type} (X : S → Heap → Prop) (post : S → Prop) : Array Value → State → Outcome → State → Prop := va_Qv post (fun u t => X u t.heap ∧ KX E t) (AE E)
/-- the room of a method that calls d deep -/
abbrev rmD (d : Nat) : Room := { frames := d, cells := 0, slots := 0, locals := 60 * d }
/-- a contract of a method that makes nothing, over the whole world: V before, an answer and V' behind -/
abbrev CI (l : Launch) (y : MethodName) (ws : List Cond) (d : Nat) (E : En) (V : Vt) (av : List Value) (post : Int32 → Vt → Prop) : Prop := Met l y ws (rmD d) (PG E (Wd E V) av) (QI E (fun V' => Wd E V') post) 0 0 (AE E)
abbrev CV (l : Launch) (y : MethodName) (ws : List Cond) (d : Nat) (E : En) (V : Vt) (av : List Value) (post : Vt → Prop) : Prop := Met l y ws (rmD d) (PG E (Wd E V) av) (QV E (fun V' => Wd E V') post) 0 0 (AE E)
section FCall
variable {p : Program} {l : Launch} {e : Env} {R : Room} {s : State} {m : MethodId} {args : Array Value} {below : List Frame} {meth : Method} {c : Code} {H : Heap} {locs : List Loc} {cells slots : Nat} {Q : State → Prop}
variable {cc : ByteArray} {pc : Nat} {ls : Array Slot} {rest : List Value} {E : En} {V : Vt}
theorem W.sz {g : JFrame} (k : H.size ≤ s.heap.size + cells → W p l e R s m args below meth c H locs cells slots Q g) : W p l e R s m args below meth c H locs cells slots Q g := fun T hT X => k (by have := X.heapSize; rw [hT] at this; exact this) T hT X
variable {S : Type} {X : Heap → Prop} {X' : S → Heap → Prop} {y : MethodName} {ws : List Cond} {rm : Room} {mc ms nL n index maxL : Nat} {Ts : List Cond} {own C : String} {bytes : ByteArray} {ret : Option FieldType} {As : List Value}
theorem w_recv (hK : KX E s) (hM : Wd E V H) {k : Nat} (hk : k < 610) {ci : Nat} (hs : sk k = ci) (h8 : ci ≤ 8) {T : u_T} {N : Nat} (hc : vwCl[ci]? = some (C, T, N)) : ∃ cellB : Cell, H[E.1 + k]? = some cellB ∧ cellB.vm.isStatics = false ∧ s.vm.findClass C = some cellB.cls := by
  subst hs
  have h0 := hM.2 k hk
  rw [cont_obj E V h8] at h0
  obtain ⟨r, h1, cell, q1, q2, q3, -⟩ := h0
  refine ⟨cell, q1, by rw [q3]; rfl, ?_⟩
  rw [q2]
  exact (hK.1.1 _ _ hc).2.1
theorem w_cVi {post : Int32 → S → Prop} (Sx : CallFix p m c cc nL s args Ts own) {b : Nat} (hM : Met l y ws rm (PG E X (.ref b :: As)) (QI E X' post) mc ms (AE E)) (cw : CallW R s args own C index y bytes maxL ret ws rm mc ms n) (hr : ∃ cellB : Cell, H[b]? = some cellB ∧ cellB.vm.isStatics = false ∧ s.vm.findClass C = some cellB.cls) (hX : X H) (hK : KX E s) (hS : va_S (AE E) s.heap H locs)
    (hn : As.length = n) (hsize : ls.size = nL) {st : List Value} (hst : st = As.reverse ++ .ref b :: rest) (hW : 2 * (F0 m pc ls st).monitorRoom + (rest.map fun v => v.category).sum ≤ 8) (hdg : decode cc pc = .ok (.invokevirtual index, 3)) (hf : cells + mc ≤ R.cells ∧ slots + ms ≤ R.slots)
    (kk : ∀ (r : Int32) (u : S) (H1 : Heap) (locs1 : List Loc), post r u → X' u H1 → va_S (AE E) s.heap H1 locs1 → W p l e R s m args below meth c H1 locs1 (cells + mc) (slots + ms) Q (F0 m (pc + 3) ls (.int r :: rest))) : W p l e R s m args below meth c H locs cells slots Q (F0 m pc ls st) := by
  refine va_calli (va_runV (As := As) (rest := rest) Sx hM cw ⟨PG.blind, hr, fun U hU hW => ⟨rfl, by rw [hU]; exact hX, hK.go hS hU hW.alike⟩⟩ rfl hn hsize hst hW hdg hf) hS (fun q _ h => h) (fun q h => h) (fun r u t H1 locs1 ht hvm hw hB hz1 hk1 hS => ?_)
  obtain ⟨hB1, -⟩ := hB
  rw [ht] at hB1
  exact kk r u H1 locs1 hw hB1 hS
theorem w_cVv {post : S → Prop} (Sx : CallFix p m c cc nL s args Ts own) {b : Nat} (hM : Met l y ws rm (PG E X (.ref b :: As)) (QV E X' post) mc ms (AE E)) (cw : CallW R s args own C index y bytes maxL ret ws rm mc ms n) (hr : ∃ cellB : Cell, H[b]? = some cellB ∧ cellB.vm.isStatics = false ∧ s.vm.findClass C = some cellB.cls) (hX : X H) (hK : KX E s) (hS : va_S (AE E) s.heap H locs)
    (hn : As.length = n) (hsize : ls.size = nL) {st : List Value} (hst : st = As.reverse ++ .ref b :: rest) (hW : 2 * (F0 m pc ls st).monitorRoom + (rest.map fun v => v.category).sum ≤ 8) (hdg : decode cc pc = .ok (.invokevirtual index, 3)) (hf : cells + mc ≤ R.cells ∧ slots + ms ≤ R.slots)
    (kk : ∀ (u : S) (H1 : Heap) (locs1 : List Loc), post u → X' u H1 → va_S (AE E) s.heap H1 locs1 → W p l e R s m args below meth c H1 locs1 (cells + mc) (slots + ms) Q (F0 m (pc + 3) ls rest)) : W p l e R s m args below meth c H locs cells slots Q (F0 m pc ls st) := by
  refine va_callv (va_runV (As := As) (rest := rest) Sx hM cw ⟨PG.blind, hr, fun U hU hW => ⟨rfl, by rw [hU]; exact hX, hK.go hS hU hW.alike⟩⟩ rfl hn hsize hst hW hdg hf) hS (fun q _ h => h) (fun q h => h) (fun u t H1 locs1 ht hvm hw hB hz1 hk1 hS => ?_)
  obtain ⟨hB1, -⟩ := hB
  rw [ht] at hB1
  exact kk u H1 locs1 hw hB1 hS
theorem w_cSi {post : Int32 → S → Prop} (Sx : CallFix p m c cc nL s args Ts own) (hM : Met l y ws rm (PG E X As) (QI E X' post) mc ms (AE E)) (cw : CallB R s args own index y bytes maxL ret ws rm mc ms n ∧ (Cond.static y).before args s = true) (hX : X H) (hK : KX E s) (hS : va_S (AE E) s.heap H locs)
    (hn : As.length = n) (hsize : ls.size = nL) {st : List Value} (hst : st = As.reverse ++ rest) (hW : 2 * (F0 m pc ls st).monitorRoom + (rest.map fun v => v.category).sum ≤ 8) (hdg : decode cc pc = .ok (.invokestatic index, 3)) (hf : cells + mc ≤ R.cells ∧ slots + ms ≤ R.slots)
    (kk : ∀ (r : Int32) (u : S) (H1 : Heap) (locs1 : List Loc), post r u → X' u H1 → va_S (AE E) s.heap H1 locs1 → W p l e R s m args below meth c H1 locs1 (cells + mc) (slots + ms) Q (F0 m (pc + 3) ls (.int r :: rest))) : W p l e R s m args below meth c H locs cells slots Q (F0 m pc ls st) := by
  refine va_calli (va_runS (As := As) (rest := rest) Sx hM cw ⟨PG.blind, fun U hU hW => ⟨rfl, by rw [hU]; exact hX, hK.go hS hU hW.alike⟩⟩ rfl hn hsize hst hW hdg hf) hS (fun q _ h => h) (fun q h => h) (fun r u t H1 locs1 ht hvm hw hB hz1 hk1 hS => ?_)
  obtain ⟨hB1, -⟩ := hB
  rw [ht] at hB1
  exact kk r u H1 locs1 hw hB1 hS
theorem w_cSv {post : S → Prop} (Sx : CallFix p m c cc nL s args Ts own) (hM : Met l y ws rm (PG E X As) (QV E X' post) mc ms (AE E)) (cw : CallB R s args own index y bytes maxL ret ws rm mc ms n ∧ (Cond.static y).before args s = true) (hX : X H) (hK : KX E s) (hS : va_S (AE E) s.heap H locs)
    (hn : As.length = n) (hsize : ls.size = nL) {st : List Value} (hst : st = As.reverse ++ rest) (hW : 2 * (F0 m pc ls st).monitorRoom + (rest.map fun v => v.category).sum ≤ 8) (hdg : decode cc pc = .ok (.invokestatic index, 3)) (hf : cells + mc ≤ R.cells ∧ slots + ms ≤ R.slots)
    (kk : ∀ (u : S) (H1 : Heap) (locs1 : List Loc), post u → X' u H1 → va_S (AE E) s.heap H1 locs1 → W p l e R s m args below meth c H1 locs1 (cells + mc) (slots + ms) Q (F0 m (pc + 3) ls rest)) : W p l e R s m args below meth c H locs cells slots Q (F0 m pc ls st) := by
  refine va_callv (va_runS (As := As) (rest := rest) Sx hM cw ⟨PG.blind, fun U hU hW => ⟨rfl, by rw [hU]; exact hX, hK.go hS hU hW.alike⟩⟩ rfl hn hsize hst hW hdg hf) hS (fun q _ h => h) (fun q h => h) (fun u t H1 locs1 ht hvm hw hB hz1 hk1 hS => ?_)
  obtain ⟨hB1, -⟩ := hB
  rw [ht] at hB1
  exact kk u H1 locs1 hw hB1 hS
theorem w_cIv {post : S → Prop} (Sx : CallFix p m c cc nL s args Ts own) {b : Nat} (hM : Met l y ws rm (PG E X (.ref b :: As)) (QV E X' post) mc ms (AE E)) (cw : CallB R s args own index y bytes maxL none ws rm mc ms n ∧ y.name = "<init>" ∧ (Cond.instanceMethod y).before args s = true) (hX : X H) (hK : KX E s) (hS : va_S (AE E) s.heap H locs)
    (hn : As.length = n) (hsize : ls.size = nL) {st : List Value} (hst : st = As.reverse ++ .ref b :: rest) (hW : 2 * (F0 m pc ls st).monitorRoom + (rest.map fun v => v.category).sum ≤ 8) (hdg : decode cc pc = .ok (.invokespecial index, 3)) (hf : cells + mc ≤ R.cells ∧ slots + ms ≤ R.slots)
    (kk : ∀ (u : S) (H1 : Heap) (locs1 : List Loc), post u → X' u H1 → va_S (AE E) s.heap H1 locs1 → W p l e R s m args below meth c H1 locs1 (cells + mc) (slots + ms) Q (F0 m (pc + 3) ls rest)) : W p l e R s m args below meth c H locs cells slots Q (F0 m pc ls st) := by
  refine va_callv (va_runI (As := As) (rest := rest) Sx hM cw ⟨PG.blind, fun U hU hW => ⟨rfl, by rw [hU]; exact hX, hK.go hS hU hW.alike⟩⟩ rfl hn hsize hst hW hdg hf) hS (fun q _ h => h) (fun q h => h) (fun u t H1 locs1 ht hvm hw hB hz1 hk1 hS => ?_)
  obtain ⟨hB1, -⟩ := hB
  rw [ht] at hB1
  exact kk u H1 locs1 hw hB1 hS
/-- ends -/
theorem w_vret {free : Addr → Prop} {S : Type} {X' : S → Heap → Prop} {post : S → Prop} (u : S) (hx : p.tables.exec = Jvm.exec) (hb : c.code = cc) (hr : meth.sig.returnType = none) (hK : KX E s) (hS : va_S (AE E) s.heap H locs) (hM : X' u H) (hp : post u) (hlocks : meth.locks = false) (hdg : decode cc pc = .ok (.return_, 1)) :
    W p l e R s m args below meth c H locs cells slots (MQ below (QV E X' post) args s cells slots (AE E)) (F0 m pc ls []) :=
  W.vret hx hb hr (fun t ht hW => ⟨⟨u, rfl, hp, by rw [ht]; exact hM, hK.go hS ht hW.alike⟩, hS.F ht⟩) hS.2.2 hdg hlocks
theorem w_iret {S : Type} {X' : S → Heap → Prop} {post : Int32 → S → Prop} {v : Int32} (u : S) (hx : p.tables.exec = Jvm.exec) (hb : c.code = cc) (hr : meth.sig.returnType = some .int) (hK : KX E s) (hS : va_S (AE E) s.heap H locs) (hM : X' u H) (hp : post v u) (hlocks : meth.locks = false) (hdg : decode cc pc = .ok (.ireturn, 1)) :
    W p l e R s m args below meth c H locs cells slots (MQ below (QI E X' post) args s cells slots (AE E)) (F0 m pc ls [.int v]) :=
  W.iret hx hb hr (fun t ht hW => ⟨⟨v, u, rfl, hp, by rw [ht]; exact hM, hK.go hS ht hW.alike⟩, hS.F ht⟩) hS.2.2 hdg hlocks
theorem w_zret {S : Type} {X' : S → Heap → Prop} {post : Int32 → S → Prop} {v : Int32} (u : S) (hx : p.tables.exec = Jvm.exec) (hb : c.code = cc) (hr : meth.sig.returnType = some .boolean) (hK : KX E s) (hS : va_S (AE E) s.heap H locs) (hM : X' u H) (hp : post v u) (hv : narrow .boolean (.int v) = .int v) (hlocks : meth.locks = false) (hdg : decode cc pc = .ok (.ireturn, 1)) :
    W p l e R s m args below meth c H locs cells slots (MQ below (QI E X' post) args s cells slots (AE E)) (F0 m pc ls [.int v]) :=
  W.zret hx hb hr hv (fun t ht hW => ⟨⟨v, u, rfl, hp, by rw [ht]; exact hM, hK.go hS ht hW.alike⟩, hS.F ht⟩) hS.2.2 hdg hlocks
/-- System.arraycopy from one int row to another -/
theorem w_cpy (hx : p.tables.exec = Jvm.exec) (hb : c.code = cc) (hml : c.maxLocals = ls.size) {own : String} {index : Nat} (hown : s.vm.findClass own = some m.cls) (hlink : (Cond.methodLink own index arraycopyName).before args s = true) (hnat : (Cond.native arraycopyName).before args s = true) (hstat : (Cond.static arraycopyName).before args s = true) (hini : (Cond.initialized "java/lang/System").before args s = true)
    (hK : KX E s) (hM : Wd E V H) (h0 : s.heap.size = E.1 + 610) (hS : va_S (AE E) s.heap H locs) {k0 k1 n0 n1 : Nat} (hne : k0 ≠ k1) (hk0 : k0 < 610) (hk1 : k1 < 610) (hs0 : sk k0 = 9) (hs1 : sk k1 = 9) (hn0 : sn k0 = n0) (hn1 : sn k1 = n1)
    {sp dp n : Int32} (h1 : ¬ sp < 0) (h2 : ¬ dp < 0) (h3 : ¬ n < 0) (h4 : sp.toNatClampNeg + n.toNatClampNeg ≤ n0) (h5 : dp.toNatClampNeg + n.toNatClampNeg ≤ n1)
    (hframes : 1 ≤ R.frames) (hlocals : (rest.map fun v => v.category).sum + (nativeFrameWords "java/lang/System" "arraycopy" 5 + 11) ≤ R.locals) (hdg : decode cc pc = .ok (.invokestatic index, 3))
    (kk : ∀ (H1 : Heap) (locs1 : List Loc), Wd E (va_up V k1 (va_cpy (V k0) (V k1) sp.toNatClampNeg dp.toNatClampNeg n.toNatClampNeg)) H1 → va_S (AE E) s.heap H1 locs1 → W p l e R s m args below meth c H1 locs1 0 slots Q (F0 m (pc + 3) ls rest)) : W p l e R s m args below meth c H locs 0 slots Q (F0 m pc ls (.int n :: .int dp :: .ref (E.1 + k1) :: .int sp :: .ref (E.1 + k0) :: rest)) := by
  have hg : ∀ k, k < 610 → ((List.range 610).map (fun k => (E.1 + k, cont E V k)))[k]? = some (E.1 + k, cont E V k) := fun k hk => by simp [List.getElem?_range, hk]
  have hP : va_P E.2.1 vwCl ((List.range 610).map (fun k => (E.1 + k, cont E V k))) H := fun j q hj => by
    have hz : j < 610 := by have := (List.getElem?_eq_some_iff.mp hj).1; simpa using this
    rw [hg j hz] at hj
    cases hj
    exact hM.2 j hz
  have hD : va_D (AE E) ((List.range 610).map (fun k => (E.1 + k, cont E V k))) := by
    refine ⟨fun i j x y hi hj hxy => ?_, fun j q hj => ?_⟩
    · have zi : i < 610 := by have := (List.getElem?_eq_some_iff.mp hi).1; simpa using this
      have zj : j < 610 := by have := (List.getElem?_eq_some_iff.mp hj).1; simpa using this
      rw [hg i zi] at hi
      rw [hg j zj] at hj
      cases hi
      cases hj
      simp at hxy
      exact hxy
    · have zj : j < 610 := by have := (List.getElem?_eq_some_iff.mp hj).1; simpa using this
      rw [hg j zj] at hj
      cases hj
      exact Nat.le_add_right _ _
  refine va_copyi hx hb hml hown hlink hnat hstat hini hK.1 hP hD hS k0 k1 0 0 (f := V k0) (g := V k1) (n0 := n0) (n1 := n1) (ty := .int) (by rw [hg k0 hk0, cont_arr E V (Or.inl hs0), hs0, hn0]) (by rw [hg k1 hk1, cont_arr E V (Or.inl hs1), hs1, hn1]) rfl rfl rfl h1 h2 h3 h4 h5 (fun _ _ => rfl) hframes hlocals hdg (fun H1 locs1 hP1 _ hS1 => W.sz (fun hz => kk H1 locs1 ?_ hS1))
  refine ⟨by have := hS1.1; omega, fun j hj => ?_⟩
  have hj2 := hP1 j
  by_cases ej : j = k1
  · subst ej
    have := hj2 (E.1 + j, _) (by rw [List.getElem?_set_self (by simpa using hj)])
    rw [cont_arr E _ (Or.inl hs1), hs1, hn1]
    simpa [va_up] using this
  · have := hj2 (E.1 + j, cont E V j) (by rw [List.getElem?_set_ne (Ne.symm ej)]; exact hg j hj)
    rw [cont_ext E (V' := V) (by simp [va_up, ej])]
    exact this
end FCall
end
section
/-! ROWS OF BYTES: a Row object at cell k with its bytes at k + 1 -/
def isRow (k cap : Nat) : Prop := k + 1 < 610 ∧ sk k = 3 ∧ sn k = 2 ∧ sf k 0 = some (k + 1) ∧ sf k 1 = none ∧ sk (k + 1) = 9 ∧ sn (k + 1) = cap ∧ cap ≤ 1200
theorem isRow.lt {k cap : Nat} (h : isRow k cap) : k < 610 := by have := h.1; omega
theorem isRow.lt1 {k cap : Nat} (h : isRow k cap) : k + 1 < 610 := h.1
theorem isRow.k {k cap : Nat} (h : isRow k cap) : sk k = 3 := h.2.1
theorem isRow.n {k cap : Nat} (h : isRow k cap) : sn k = 2 := h.2.2.1
theorem isRow.f0 {k cap : Nat} (h : isRow k cap) : sf k 0 = some (k + 1) := h.2.2.2.1
theorem isRow.f1 {k cap : Nat} (h : isRow k cap) : sf k 1 = none := h.2.2.2.2.1
theorem isRow.ak {k cap : Nat} (h : isRow k cap) : sk (k + 1) = 9 := h.2.2.2.2.2.1
theorem isRow.an {k cap : Nat} (h : isRow k cap) : sn (k + 1) = cap := h.2.2.2.2.2.2.1
theorem isRow.cap {k cap : Nat} (h : isRow k cap) : cap ≤ 1200 := h.2.2.2.2.2.2.2
/-- the row at k holds the bytes l -/
def rowIs (V : Vt) (k : Nat) (l : List Int32) : Prop := V k 1 = nI l.length ∧ ∀ i, i < l.length → V (k + 1) i = l.getD i 0
/-- nothing has changed but the row at k -/
def frR (V V' : Vt) (k : Nat) : Prop := ∀ j, j ≠ k → j ≠ k + 1 → V' j = V j
theorem frR.rf {V : Vt} {k : Nat} : frR V V k := fun _ _ _ => rfl
theorem rowIs.keep {V V' : Vt} {k : Nat} {l : List Int32} (h : rowIs V k l) (h0 : V' k = V k) (h1 : V' (k + 1) = V (k + 1)) : rowIs V' k l := ⟨by rw [h0]; exact h.1, fun i hi => by rw [h1]; exact h.2 i hi⟩
/-- the byte at a place, or -1 -/
def bAt (l : List Int32) (i : Int32) : Int32 := if 0 ≤ i ∧ i < nI l.length then l.getD i.toNatClampNeg 0 else -1
theorem up2_s (V : Vt) (k i : Nat) (x : Int32) : up2 V k i x k i = x := by simp [up2, va_up, upd]
theorem up2_o (V : Vt) {k i j : Nat} (x : Int32) (h : j ≠ i) : up2 V k i x k j = V k j := by simp [up2, va_up, upd, h]
theorem up2_k (V : Vt) {k i j : Nat} (x : Int32) (h : j ≠ k) : up2 V k i x j = V j := by simp [up2, va_up, h]
theorem rowIs.nil (V : Vt) (k : Nat) : rowIs (up2 V k 1 0) k [] := ⟨by rw [up2_s]; rfl, fun i hi => by simp at hi⟩
theorem rowIs.push {V : Vt} {k : Nat} {l : List Int32} (h : rowIs V k l) (x : Int32) : rowIs (up2 (up2 V (k + 1) l.length x) k 1 (nI (l.length + 1))) k (l ++ [x]) := by
  refine ⟨by rw [up2_s]; simp, fun i hi => ?_⟩
  rw [up2_k _ _ (by omega)]
  by_cases e : i = l.length
  · subst e
    rw [up2_s]; simp
  · rw [up2_o _ _ e, h.2 i (by simp at hi; omega)]
    simp at hi
    simp [List.getD_eq_getElem?_getD, List.getElem?_append_left (show i < l.length by omega)]
theorem frR.up {V V' : Vt} {k : Nat} (h : frR V V' k) {j : Nat} (hj : j = k ∨ j = k + 1) (i : Nat) (x : Int32) : frR V (up2 V' j i x) k := fun a h1 h2 => by
  rw [up2_k _ _ (by rcases hj with rfl | rfl <;> omega)]
  exact h a h1 h2
theorem frR.trans {V V' V'' : Vt} {k : Nat} (h : frR V V' k) (h' : frR V' V'' k) : frR V V'' k := fun a h1 h2 => (h' a h1 h2).trans (h a h1 h2)
theorem ix_of {i : Int32} {n : Nat} (h0 : ¬ i < 0) (h1 : ¬ nI n ≤ i) (hn : n < 2 ^ 31) : ∃ j, j < n ∧ i = nI j := by
  rcases pk_ix i hn with h | h | h
  · exact absurd h h0
  · exact absurd h h1
  · exact h
theorem bAt_in {l : List Int32} {i : Int32} {j : Nat} (e : i = nI j) (hj : j < l.length) (hl : l.length < 2 ^ 31) : bAt l i = l.getD j 0 := by
  subst e
  unfold bAt
  rw [if_pos ⟨nI_pos' (by omega), nI_lt hj hl⟩, nI_clamp (by omega)]
theorem bAt_neg {l : List Int32} {i : Int32} (h : i < 0) : bAt l i = -1 := by
  unfold bAt
  rw [if_neg (fun q => by grind)]
theorem bAt_big {l : List Int32} {i : Int32} (h : nI l.length ≤ i) : bAt l i = -1 := by
  unfold bAt
  rw [if_neg (fun q => by grind)]
theorem row_push {V V1 V2 : Vt} {k : Nat} {l : List Int32} {x : Int32} (h : rowIs V k l) (hl : l.length < 2 ^ 31) (e1 : up2 V (k + 1) (nI l.length).toNatClampNeg x = V1) (e2 : up2 V1 k 1 (nI l.length + 1) = V2) : rowIs V2 k (l ++ [x]) ∧ frR V V2 k := by
  subst e1; subst e2
  rw [nI_clamp hl, nI_1]
  exact ⟨h.push x, (frR.rf.up (Or.inr rfl) _ _).up (Or.inl rfl) _ _⟩
theorem row_upL {V V1 : Vt} {k : Nat} {l : List Int32} {n : Nat} (hV : ∀ i, i < n → V (k + 1) i = l.getD i 0) {x : Int32} {j : Int32} (hj : j = nI n) (hn : n < 2 ^ 31) (hx : l.getD n 0 = x) (e1 : up2 V (k + 1) j.toNatClampNeg x = V1) : (∀ i, i < n + 1 → V1 (k + 1) i = l.getD i 0) ∧ frR V V1 k := by
  subst e1; subst hj
  rw [nI_clamp hn]
  refine ⟨fun i hi => ?_, frR.rf.up (Or.inr rfl) _ _⟩
  by_cases e : i = n
  · subst e; rw [up2_s, hx]
  · rw [up2_o _ _ e]; exact hV i (by omega)
/-- the four bytes of a word, as the rows have them -/
def w4 (w : Int32) : List Int32 := [(w.toUInt32 >>> ((24 : Int32).toUInt32 &&& Int32.toUInt32 31)).toInt32, (w.toUInt32 >>> ((16 : Int32).toUInt32 &&& Int32.toUInt32 31)).toInt32 &&& 255, (w.toUInt32 >>> ((8 : Int32).toUInt32 &&& Int32.toUInt32 31)).toInt32 &&& 255, w &&& 255]
theorem gd_app {l m : List Int32} {i : Nat} (h : i < l.length) : (l ++ m).getD i 0 = l.getD i 0 := by
  simp [List.getD_eq_getElem?_getD, List.getElem?_append_left h]
theorem gd_app2 {l m : List Int32} {i : Nat} : (l ++ m).getD (l.length + i) 0 = m.getD i 0 := by
  rw [List.getD_eq_getElem?_getD, List.getElem?_append_right (by omega), List.getD_eq_getElem?_getD]
  simp
theorem row_word {V V1 V2 V3 V4 V5 : Vt} {k : Nat} {l : List Int32} {w : Int32} {x0 x1 x2 x3 : Int32} (hw : w4 w = [x0, x1, x2, x3]) (h : rowIs V k l) (hl : l.length < 2 ^ 30) (e1 : up2 V (k + 1) (nI l.length).toNatClampNeg x0 = V1) (e2 : up2 V1 (k + 1) (nI l.length + 1).toNatClampNeg x1 = V2) (e3 : up2 V2 (k + 1) (nI l.length + 2).toNatClampNeg x2 = V3) (e4 : up2 V3 (k + 1) (nI l.length + 3).toNatClampNeg x3 = V4) (e5 : up2 V4 k 1 (nI l.length + 4) = V5) : rowIs V5 k (l ++ w4 w) ∧ frR V V5 k := by
  have n2 : nI l.length + 2 = nI (l.length + 2) := nI_add _ 2
  have n3 : nI l.length + 3 = nI (l.length + 3) := nI_add _ 3
  have n4 : nI l.length + 4 = nI (l.length + 4) := nI_add _ 4
  obtain ⟨h1, f1⟩ := row_upL (l := l ++ w4 w) (n := l.length) (fun i hi => by rw [gd_app hi]; exact h.2 i hi) rfl (by omega) (by have := gd_app2 (l := l) (m := w4 w) (i := 0); rw [Nat.add_zero] at this; rw [this, hw]; rfl) e1
  obtain ⟨h2, f2⟩ := row_upL (l := l ++ w4 w) (n := l.length + 1) h1 (nI_1 _) (by omega) (by rw [gd_app2, hw]; rfl) e2
  obtain ⟨h3, f3⟩ := row_upL (l := l ++ w4 w) (n := l.length + 2) h2 n2 (by omega) (by rw [gd_app2, hw]; rfl) e3
  obtain ⟨h4, f4⟩ := row_upL (l := l ++ w4 w) (n := l.length + 3) h3 n3 (by omega) (by rw [gd_app2, hw]; rfl) e4
  subst e5
  have hlen : (l ++ w4 w).length = l.length + 4 := by rw [hw]; simp
  refine ⟨⟨by rw [up2_s, hlen, n4], fun i hi => ?_⟩, ((f1.trans f2).trans (f3.trans f4)).up (Or.inl rfl) _ _⟩
  rw [up2_k _ _ (by omega)]
  exact h4 i (by omega)
theorem row_cpy {V V1 V2 : Vt} {k k2 a n : Nat} {l l2 : List Int32} (h : rowIs V k l) (h2 : rowIs V k2 l2) (ha : a + n ≤ l2.length) (e1 : va_up V (k + 1) (va_cpy (V (k2 + 1)) (V (k + 1)) a l.length n) = V1) (e2 : up2 V1 k 1 (nI (l.length + n)) = V2) : rowIs V2 k (l ++ (l2.drop a).take n) ∧ frR V V2 k := by
  subst e1; subst e2
  have hlen : (l ++ (l2.drop a).take n).length = l.length + n := by simp; omega
  refine ⟨⟨by rw [up2_s, hlen], fun i hi => ?_⟩, fun j h1 h2 => by rw [up2_k _ _ h1]; simp [va_up, h2]⟩
  rw [up2_k _ _ (by omega)]
  rw [hlen] at hi
  simp only [va_up, if_true]
  by_cases e : i < l.length
  · rw [gd_app e, pk_cpy_out (Or.inl e)]
    exact h.2 i e
  · obtain ⟨j, rfl⟩ : ∃ j, i = l.length + j := ⟨i - l.length, by omega⟩
    rw [gd_app2, pk_cpy_in (by omega) (by omega), h2.2 _ (by omega)]
    have hj : j < n := by omega
    simp [List.getD_eq_getElem?_getD, List.getElem?_take, hj, show l.length + j - l.length = j by omega]
theorem row_ext {V : Vt} {k : Nat} {l m : List Int32} (hlen : l.length = m.length) (hl : rowIs V k l) (hm : ∀ i, i < m.length → V (k + 1) i = m.getD i 0) : l = m := by
  apply List.ext_getElem? 
  intro i
  by_cases hi : i < l.length
  · have h1 := hl.2 i hi
    have h2 := hm i (by omega)
    rw [h1] at h2
    rw [List.getD_eq_getElem?_getD, List.getD_eq_getElem?_getD] at h2
    rw [List.getElem?_eq_getElem hi, List.getElem?_eq_getElem (show i < m.length by omega)] at h2 ⊢
    simpa using h2
  · rw [List.getElem?_eq_none (by omega), List.getElem?_eq_none (by omega)]
theorem row_set {V V1 : Vt} {k j : Nat} {l : List Int32} {y : Int32} (h : rowIs V k l) (hj : j < l.length) (e1 : up2 V (k + 1) j y = V1) : rowIs V1 k (l.set j y) ∧ frR V V1 k := by
  subst e1
  refine ⟨⟨by rw [up2_k _ _ (by omega), List.length_set]; exact h.1, fun i hi => ?_⟩, frR.rf.up (Or.inr rfl) _ _⟩
  rw [List.length_set] at hi
  by_cases e : i = j
  · subst e; rw [up2_s]; simp [List.getD_eq_getElem?_getD, hi]
  · rw [up2_o _ _ e, h.2 i hi]; simp [List.getD_eq_getElem?_getD, List.getElem?_set, Ne.symm e]
theorem nI_lei {a b : Nat} {x : Int32} (e : x = nI b) (h : nI a ≤ x) (ha : a < 2 ^ 31) (hb : b < 2 ^ 31) : a ≤ b := by
  subst e; exact (nI_leI ha hb).mp h
theorem nI_ltn {a b : Nat} {x : Int32} (e : x = nI b) (h : ¬ nI a ≤ x) (ha : a < 2 ^ 31) (hb : b < 2 ^ 31) : b < a := by
  subst e; exact Nat.not_le.mp (fun q => h ((nI_leI ha hb).mpr q))
end
section
set_option maxHeartbeats 4000000 in
set_option maxRecDepth 100000 in
theorem c_X3_has (l : Launch) {E : En} {V : Vt} {k cap : Nat} (hk : isRow k cap) (i : Int32) : CI l yX3_has wsX3_has 0 E V [.ref (E.1 + k), .int i] (fun r V' => r = (if 0 ≤ i ∧ i < V k 1 then 1 else 0) ∧ V' = V) := by
  refine Met.ofW (cc := cX3_has) (maxL := 2) (ret := (some .boolean)) (by decide) rfl ?_
  intro p e s m args below meth c s₁ B hml hv
  obtain ⟨rfl, hM, hK⟩ := hv
  have hx := B.exec
  have hb := B.bytes
  have hr := B.returns
  have hts := atoms_spec (ws := wsX3_has) B.pre
  have hown : s.vm.findClass RX3 = some m.cls := findClass_of_methodNamed B.named
  have hlocks := B.notSynchronized
  have hsz : s.heap.size = E.1 + 610 := hM.1
  have hS : va_S (AE E) s.heap s.heap [] := va_S.rf
  have in3 : ∀ w ∈ u_ws RX3 TX3 2, w ∈ wsX3_has := by decide +kernel
  have k21 := hts (.fieldLink RX3 21 "LimitTokens$Row" "length" "I") (by decide +kernel)
  have hl := lv_entry ([.ref (E.1 + k), .int i]) (n := 2) (Nat.le_of_ble_eq_true rfl)
  rw [lg_entry_eq]
  generalize (lg_sl ([.ref (E.1 + k), .int i]) ++ List.replicate (2 - (lg_sl ([.ref (E.1 + k), .int i])).length) Slot.unset).toArray = ls at hl ⊢
  have hl : lv_has ls 2 [(0, .ref (E.1 + k)), (1, .int i)] := hl
  refine lv_iload_n hx hb dX3_has_0 rfl (lv_at hl 1 rfl) ?_
  refine lv_if_lt (tgt := 16) hx hb dX3_has_1 (by decide) (fun c_1 => ?_) (fun c_1 => ?_)
  · refine lv_iconst (v := 0) hx hb dX3_has_16 (by decide) ?_
    exact w_zret V hx hb hr hK hS hM (⟨by grind, rfl⟩) (rfl) hlocks dX3_has_17
  · refine lv_iload_n hx hb dX3_has_4 rfl (lv_at hl 1 rfl) ?_
    refine lv_aload_n hx hb dX3_has_5 rfl (lv_at hl 0 rfl) ?_
    refine w_gi 3 1 (T := TX3) (N := 2) hx hb hts in3 hown hK.1 hM (hk).lt (hk).k (hk).n (hk).f1 (by decide) rfl (by decide) k21 rfl dX3_has_6 ?_
    refine lv_icmp_ge (tgt := 16) hx hb dX3_has_9 (by decide) (fun c_9 => ?_) (fun c_9 => ?_)
    · refine lv_iconst (v := 0) hx hb dX3_has_16 (by decide) ?_
      exact w_zret V hx hb hr hK hS hM (⟨by grind, rfl⟩) (rfl) hlocks dX3_has_17
    · refine lv_iconst (v := 1) hx hb dX3_has_12 (by decide) ?_
      refine lv_goto (tgt := 17) hx hb dX3_has_13 (by decide) ?_
      exact w_zret V hx hb hr hK hS hM (⟨by grind, rfl⟩) (rfl) hlocks dX3_has_17

set_option maxHeartbeats 4000000 in
set_option maxRecDepth 100000 in
theorem c_X3_hasRoomFor (l : Launch) {E : En} {V : Vt} {k cap : Nat} (hk : isRow k cap) (i : Int32) : CI l yX3_hasRoomFor wsX3_hasRoomFor 0 E V [.ref (E.1 + k), .int i] (fun r V' => r = (if i ≤ nI cap - V k 1 then 1 else 0) ∧ V' = V) := by
  refine Met.ofW (cc := cX3_hasRoomFor) (maxL := 2) (ret := (some .boolean)) (by decide) rfl ?_
  intro p e s m args below meth c s₁ B hml hv
  obtain ⟨rfl, hM, hK⟩ := hv
  have hx := B.exec
  have hb := B.bytes
  have hr := B.returns
  have hts := atoms_spec (ws := wsX3_hasRoomFor) B.pre
  have hown : s.vm.findClass RX3 = some m.cls := findClass_of_methodNamed B.named
  have hlocks := B.notSynchronized
  have hsz : s.heap.size = E.1 + 610 := hM.1
  have hS : va_S (AE E) s.heap s.heap [] := va_S.rf
  have in3 : ∀ w ∈ u_ws RX3 TX3 2, w ∈ wsX3_hasRoomFor := by decide +kernel
  have k15 := hts (.fieldLink RX3 15 "LimitTokens$Row" "bytes" "[I") (by decide +kernel)
  have k21 := hts (.fieldLink RX3 21 "LimitTokens$Row" "length" "I") (by decide +kernel)
  have hl := lv_entry ([.ref (E.1 + k), .int i]) (n := 2) (Nat.le_of_ble_eq_true rfl)
  rw [lg_entry_eq]
  generalize (lg_sl ([.ref (E.1 + k), .int i]) ++ List.replicate (2 - (lg_sl ([.ref (E.1 + k), .int i])).length) Slot.unset).toArray = ls at hl ⊢
  have hl : lv_has ls 2 [(0, .ref (E.1 + k)), (1, .int i)] := hl
  refine lv_iload_n hx hb dX3_hasRoomFor_0 rfl (lv_at hl 1 rfl) ?_
  refine lv_aload_n hx hb dX3_hasRoomFor_1 rfl (lv_at hl 0 rfl) ?_
  refine w_gr 3 0 (k + 1) (T := TX3) (N := 2) hx hb hts in3 hown hK.1 hM (hk).lt (hk).k (hk).n (hk).f0 (by decide) rfl (by decide) k15 rfl dX3_hasRoomFor_2 ?_
  refine w_len hx hb hK.1 hM (hk).lt1 (hk).ak (hk).an dX3_hasRoomFor_5 ?_
  refine lv_aload_n hx hb dX3_hasRoomFor_6 rfl (lv_at hl 0 rfl) ?_
  refine w_gi 3 1 (T := TX3) (N := 2) hx hb hts in3 hown hK.1 hM (hk).lt (hk).k (hk).n (hk).f1 (by decide) rfl (by decide) k21 rfl dX3_hasRoomFor_7 ?_
  refine lv_isub hx hb dX3_hasRoomFor_10 ?_
  refine lv_icmp_gt (tgt := 18) hx hb dX3_hasRoomFor_11 (by decide) (fun c_11 => ?_) (fun c_11 => ?_)
  · refine lv_iconst (v := 0) hx hb dX3_hasRoomFor_18 (by decide) ?_
    exact w_zret V hx hb hr hK hS hM (⟨by grind, rfl⟩) (rfl) hlocks dX3_hasRoomFor_19
  · refine lv_iconst (v := 1) hx hb dX3_hasRoomFor_14 (by decide) ?_
    refine lv_goto (tgt := 19) hx hb dX3_hasRoomFor_15 (by decide) ?_
    exact w_zret V hx hb hr hK hS hM (⟨by grind, rfl⟩) (rfl) hlocks dX3_hasRoomFor_19

set_option maxHeartbeats 4000000 in
set_option maxRecDepth 100000 in
theorem c_X3_byteAt (l : Launch) {E : En} {V : Vt} {k cap : Nat} (hk : isRow k cap) {b : List Int32} (hb0 : rowIs V k b) (hbl : b.length ≤ cap) (i : Int32) : CI l yX3_byteAt wsX3_byteAt 0 E V [.ref (E.1 + k), .int i] (fun r V' => r = bAt b i ∧ V' = V) := by
  refine Met.ofW (cc := cX3_byteAt) (maxL := 2) (ret := (some .int)) (by decide) rfl ?_
  intro p e s m args below meth c s₁ B hml hv
  obtain ⟨rfl, hM, hK⟩ := hv
  have hx := B.exec
  have hb := B.bytes
  have hr := B.returns
  have hts := atoms_spec (ws := wsX3_byteAt) B.pre
  have hown : s.vm.findClass RX3 = some m.cls := findClass_of_methodNamed B.named
  have hlocks := B.notSynchronized
  have hsz : s.heap.size = E.1 + 610 := hM.1
  have hS : va_S (AE E) s.heap s.heap [] := va_S.rf
  have in3 : ∀ w ∈ u_ws RX3 TX3 2, w ∈ wsX3_byteAt := by decide +kernel
  have k21 := hts (.fieldLink RX3 21 "LimitTokens$Row" "length" "I") (by decide +kernel)
  have k15 := hts (.fieldLink RX3 15 "LimitTokens$Row" "bytes" "[I") (by decide +kernel)
  have hl := lv_entry ([.ref (E.1 + k), .int i]) (n := 2) (Nat.le_of_ble_eq_true rfl)
  rw [lg_entry_eq]
  generalize (lg_sl ([.ref (E.1 + k), .int i]) ++ List.replicate (2 - (lg_sl ([.ref (E.1 + k), .int i])).length) Slot.unset).toArray = ls at hl ⊢
  have hl : lv_has ls 2 [(0, .ref (E.1 + k)), (1, .int i)] := hl
  have hcap := hk.cap
  refine lv_iload_n hx hb dX3_byteAt_0 rfl (lv_at hl 1 rfl) ?_
  refine lv_if_lt (tgt := 21) hx hb dX3_byteAt_1 (by decide) (fun c_1 => ?_) (fun c_1 => ?_)
  · refine lv_iconst (v := (-1)) hx hb dX3_byteAt_21 (by decide) ?_
    exact w_iret V hx hb hr hK hS hM (⟨by first | (rw [bAt_in ej hj (by omega), ej, nI_clamp (by omega)]; exact hb0.2 j hj) | rw [bAt_neg c_1] | rw [bAt_big c_9], rfl⟩) hlocks dX3_byteAt_22
  · refine lv_iload_n hx hb dX3_byteAt_4 rfl (lv_at hl 1 rfl) ?_
    refine lv_aload_n hx hb dX3_byteAt_5 rfl (lv_at hl 0 rfl) ?_
    refine w_gi 3 1 (T := TX3) (N := 2) hx hb hts in3 hown hK.1 hM (hk).lt (hk).k (hk).n (hk).f1 (by decide) rfl (by decide) k21 rfl dX3_byteAt_6 ?_
    refine lv_eqi (show V k 1 = nI b.length from hb0.1) ?_
    refine lv_icmp_ge (tgt := 21) hx hb dX3_byteAt_9 (by decide) (fun c_9 => ?_) (fun c_9 => ?_)
    · refine lv_iconst (v := (-1)) hx hb dX3_byteAt_21 (by decide) ?_
      exact w_iret V hx hb hr hK hS hM (⟨by first | (rw [bAt_in ej hj (by omega), ej, nI_clamp (by omega)]; exact hb0.2 j hj) | rw [bAt_neg c_1] | rw [bAt_big c_9], rfl⟩) hlocks dX3_byteAt_22
    · obtain ⟨j, hj, ej⟩ := ix_of c_1 c_9 (by omega)
      refine lv_aload_n hx hb dX3_byteAt_12 rfl (lv_at hl 0 rfl) ?_
      refine w_gr 3 0 (k + 1) (T := TX3) (N := 2) hx hb hts in3 hown hK.1 hM (hk).lt (hk).k (hk).n (hk).f0 (by decide) rfl (by decide) k15 rfl dX3_byteAt_13 ?_
      refine lv_iload_n hx hb dX3_byteAt_16 rfl (lv_at hl 1 rfl) ?_
      refine w_ild hx hb hK.1 hM (hk).lt1 (hk).ak (hk).an (by rw [ej]; exact vp_in_nI (by omega) (by omega)) dX3_byteAt_17 ?_
      refine lv_goto (tgt := 22) hx hb dX3_byteAt_18 (by decide) ?_
      exact w_iret V hx hb hr hK hS hM (⟨by first | (rw [bAt_in ej hj (by omega), ej, nI_clamp (by omega)]; exact hb0.2 j hj) | rw [bAt_neg c_1] | rw [bAt_big c_9], rfl⟩) hlocks dX3_byteAt_22

set_option maxHeartbeats 4000000 in
set_option maxRecDepth 100000 in
theorem c_X3_makeEmpty (l : Launch) {E : En} {V : Vt} {k cap : Nat} (hk : isRow k cap) : CV l yX3_makeEmpty wsX3_makeEmpty 0 E V [.ref (E.1 + k)] (fun V' => rowIs V' k [] ∧ frR V V' k) := by
  refine Met.ofW (cc := cX3_makeEmpty) (maxL := 1) (ret := none) (by decide) rfl ?_
  intro p e s m args below meth c s₁ B hml hv
  obtain ⟨rfl, hM, hK⟩ := hv
  have hx := B.exec
  have hb := B.bytes
  have hr := B.returns
  have hts := atoms_spec (ws := wsX3_makeEmpty) B.pre
  have hown : s.vm.findClass RX3 = some m.cls := findClass_of_methodNamed B.named
  have hlocks := B.notSynchronized
  have hsz : s.heap.size = E.1 + 610 := hM.1
  have hS : va_S (AE E) s.heap s.heap [] := va_S.rf
  have in3 : ∀ w ∈ u_ws RX3 TX3 2, w ∈ wsX3_makeEmpty := by decide +kernel
  have k21 := hts (.fieldLink RX3 21 "LimitTokens$Row" "length" "I") (by decide +kernel)
  have hl := lv_entry ([.ref (E.1 + k)]) (n := 1) (Nat.le_of_ble_eq_true rfl)
  rw [lg_entry_eq]
  generalize (lg_sl ([.ref (E.1 + k)]) ++ List.replicate (1 - (lg_sl ([.ref (E.1 + k)])).length) Slot.unset).toArray = ls at hl ⊢
  have hl : lv_has ls 1 [(0, .ref (E.1 + k))] := hl
  refine lv_aload_n hx hb dX3_makeEmpty_0 rfl (lv_at hl 0 rfl) ?_
  refine lv_iconst (v := 0) hx hb dX3_makeEmpty_1 (by decide) ?_
  refine w_pi 3 1 (T := TX3) (N := 2) hx hb hts in3 tyX3 tyX3_ok nmX3 hown hK.1 hM hS (hk).lt (hk).k (hk).n (hk).f1 (by decide) rfl (by decide) k21 rfl rfl rfl rfl dX3_makeEmpty_2 (fun H locs hM hS => ?_)
  generalize hV2 : up2 V k 1 0 = V2 at hM
  exact w_vret (free := AE E) V2 hx hb hr hK hS hM (by subst hV2; exact ⟨rowIs.nil V k, frR.rf.up (Or.inl rfl) _ _⟩) hlocks dX3_makeEmpty_5

set_option maxHeartbeats 4000000 in
set_option maxRecDepth 100000 in
theorem c_X3_push (l : Launch) {E : En} {V : Vt} {k cap : Nat} (hk : isRow k cap) {l0 : List Int32} (hr0 : rowIs V k l0) (hc : l0.length < cap) (b : Int32) : CV l yX3_push wsX3_push 0 E V [.ref (E.1 + k), .int b] (fun V' => rowIs V' k (l0 ++ [b]) ∧ frR V V' k) := by
  refine Met.ofW (cc := cX3_push) (maxL := 2) (ret := none) (by decide) rfl ?_
  intro p e s m args below meth c s₁ B hml hv
  obtain ⟨rfl, hM, hK⟩ := hv
  have hx := B.exec
  have hb := B.bytes
  have hr := B.returns
  have hts := atoms_spec (ws := wsX3_push) B.pre
  have hown : s.vm.findClass RX3 = some m.cls := findClass_of_methodNamed B.named
  have hlocks := B.notSynchronized
  have hsz : s.heap.size = E.1 + 610 := hM.1
  have hS : va_S (AE E) s.heap s.heap [] := va_S.rf
  have in3 : ∀ w ∈ u_ws RX3 TX3 2, w ∈ wsX3_push := by decide +kernel
  have k21 := hts (.fieldLink RX3 21 "LimitTokens$Row" "length" "I") (by decide +kernel)
  have k15 := hts (.fieldLink RX3 15 "LimitTokens$Row" "bytes" "[I") (by decide +kernel)
  have hl := lv_entry ([.ref (E.1 + k), .int b]) (n := 2) (Nat.le_of_ble_eq_true rfl)
  rw [lg_entry_eq]
  generalize (lg_sl ([.ref (E.1 + k), .int b]) ++ List.replicate (2 - (lg_sl ([.ref (E.1 + k), .int b])).length) Slot.unset).toArray = ls at hl ⊢
  have hl : lv_has ls 2 [(0, .ref (E.1 + k)), (1, .int b)] := hl
  have hcap := hk.cap
  refine lv_aload_n hx hb dX3_push_0 rfl (lv_at hl 0 rfl) ?_
  refine w_gi 3 1 (T := TX3) (N := 2) hx hb hts in3 hown hK.1 hM (hk).lt (hk).k (hk).n (hk).f1 (by decide) rfl (by decide) k21 rfl dX3_push_1 ?_
  refine lv_eqi (show V k 1 = nI l0.length from hr0.1) ?_
  refine lv_aload_n hx hb dX3_push_4 rfl (lv_at hl 0 rfl) ?_
  refine w_gr 3 0 (k + 1) (T := TX3) (N := 2) hx hb hts in3 hown hK.1 hM (hk).lt (hk).k (hk).n (hk).f0 (by decide) rfl (by decide) k15 rfl dX3_push_5 ?_
  refine w_len hx hb hK.1 hM (hk).lt1 (hk).ak (hk).an dX3_push_8 ?_
  refine lv_icmp_ge (tgt := 32) hx hb dX3_push_9 (by decide) (fun c_9 => ?_) (fun c_9 => ?_)
  · exact absurd c_9 (nI_ge hc (by omega))
  · refine lv_aload_n hx hb dX3_push_12 rfl (lv_at hl 0 rfl) ?_
    refine w_gr 3 0 (k + 1) (T := TX3) (N := 2) hx hb hts in3 hown hK.1 hM (hk).lt (hk).k (hk).n (hk).f0 (by decide) rfl (by decide) k15 rfl dX3_push_13 ?_
    refine lv_aload_n hx hb dX3_push_16 rfl (lv_at hl 0 rfl) ?_
    refine w_gi 3 1 (T := TX3) (N := 2) hx hb hts in3 hown hK.1 hM (hk).lt (hk).k (hk).n (hk).f1 (by decide) rfl (by decide) k21 rfl dX3_push_17 ?_
    refine lv_eqi (show V k 1 = nI l0.length from hr0.1) ?_
    refine lv_iload_n hx hb dX3_push_20 rfl (lv_at hl 1 rfl) ?_
    refine w_ist hx hb hK.1 hM hS (hk).lt1 (hk).ak (hk).an (vp_in_nI hc (by omega)) dX3_push_21 (fun H locs hM hS => ?_)
    generalize hV21 : up2 V (k + 1) (nI l0.length).toNatClampNeg b = V21 at hM
    refine lv_aload_n hx hb dX3_push_22 rfl (lv_at hl 0 rfl) ?_
    refine lv_dup hx hb dX3_push_23 rfl ?_
    refine w_gi 3 1 (T := TX3) (N := 2) hx hb hts in3 hown hK.1 hM (hk).lt (hk).k (hk).n (hk).f1 (by decide) rfl (by decide) k21 rfl dX3_push_24 ?_
    refine lv_eqi (show V21 k 1 = nI l0.length from by rw [← hV21, up2_k _ _ (by omega)]; exact hr0.1) ?_
    refine lv_iconst (v := 1) hx hb dX3_push_27 (by decide) ?_
    refine lv_iadd hx hb dX3_push_28 ?_
    refine w_pi 3 1 (T := TX3) (N := 2) hx hb hts in3 tyX3 tyX3_ok nmX3 hown hK.1 hM hS (hk).lt (hk).k (hk).n (hk).f1 (by decide) rfl (by decide) k21 rfl rfl rfl rfl dX3_push_29 (fun H locs hM hS => ?_)
    generalize hV29 : up2 V21 k 1 ((nI l0.length) + 1) = V29 at hM
    exact w_vret (free := AE E) V29 hx hb hr hK hS hM (row_push hr0 (by omega) hV21 hV29) hlocks dX3_push_32

set_option maxHeartbeats 4000000 in
set_option maxRecDepth 100000 in
theorem c_X3_pushWord (l : Launch) {E : En} {V : Vt} {k cap : Nat} (hk : isRow k cap) {l0 : List Int32} (hr0 : rowIs V k l0) (hc : l0.length + 4 ≤ cap) (w : Int32) : CV l yX3_pushWord wsX3_pushWord 0 E V [.ref (E.1 + k), .int w] (fun V' => rowIs V' k (l0 ++ w4 w) ∧ frR V V' k) := by
  refine Met.ofW (cc := cX3_pushWord) (maxL := 2) (ret := none) (by decide) rfl ?_
  intro p e s m args below meth c s₁ B hml hv
  obtain ⟨rfl, hM, hK⟩ := hv
  have hx := B.exec
  have hb := B.bytes
  have hr := B.returns
  have hts := atoms_spec (ws := wsX3_pushWord) B.pre
  have hown : s.vm.findClass RX3 = some m.cls := findClass_of_methodNamed B.named
  have hlocks := B.notSynchronized
  have hsz : s.heap.size = E.1 + 610 := hM.1
  have hS : va_S (AE E) s.heap s.heap [] := va_S.rf
  have in3 : ∀ w ∈ u_ws RX3 TX3 2, w ∈ wsX3_pushWord := by decide +kernel
  have k21 := hts (.fieldLink RX3 21 "LimitTokens$Row" "length" "I") (by decide +kernel)
  have k15 := hts (.fieldLink RX3 15 "LimitTokens$Row" "bytes" "[I") (by decide +kernel)
  have hl := lv_entry ([.ref (E.1 + k), .int w]) (n := 2) (Nat.le_of_ble_eq_true rfl)
  rw [lg_entry_eq]
  generalize (lg_sl ([.ref (E.1 + k), .int w]) ++ List.replicate (2 - (lg_sl ([.ref (E.1 + k), .int w])).length) Slot.unset).toArray = ls at hl ⊢
  have hl : lv_has ls 2 [(0, .ref (E.1 + k)), (1, .int w)] := hl
  have hcap := hk.cap
  have n1 : nI l0.length + 1 = nI (l0.length + 1) := nI_add _ 1
  have n2 : nI l0.length + 2 = nI (l0.length + 2) := nI_add _ 2
  have n3 : nI l0.length + 3 = nI (l0.length + 3) := nI_add _ 3
  have n4 : nI cap - 4 = nI (cap - 4) := pk_sub (b := 4) (by omega)
  refine lv_aload_n hx hb dX3_pushWord_0 rfl (lv_at hl 0 rfl) ?_
  refine w_gi 3 1 (T := TX3) (N := 2) hx hb hts in3 hown hK.1 hM (hk).lt (hk).k (hk).n (hk).f1 (by decide) rfl (by decide) k21 rfl dX3_pushWord_1 ?_
  refine lv_eqi (show V k 1 = nI l0.length from hr0.1) ?_
  refine lv_aload_n hx hb dX3_pushWord_4 rfl (lv_at hl 0 rfl) ?_
  refine w_gr 3 0 (k + 1) (T := TX3) (N := 2) hx hb hts in3 hown hK.1 hM (hk).lt (hk).k (hk).n (hk).f0 (by decide) rfl (by decide) k15 rfl dX3_pushWord_5 ?_
  refine w_len hx hb hK.1 hM (hk).lt1 (hk).ak (hk).an dX3_pushWord_8 ?_
  refine lv_iconst (v := 4) hx hb dX3_pushWord_9 (by decide) ?_
  refine lv_isub hx hb dX3_pushWord_10 ?_
  refine lv_icmp_gt (tgt := 91) hx hb dX3_pushWord_11 (by decide) (fun c_11 => ?_) (fun c_11 => ?_)
  · exact absurd c_11 (by rw [n4]; exact nI_nlt (by omega) (by omega))
  · refine lv_aload_n hx hb dX3_pushWord_14 rfl (lv_at hl 0 rfl) ?_
    refine w_gr 3 0 (k + 1) (T := TX3) (N := 2) hx hb hts in3 hown hK.1 hM (hk).lt (hk).k (hk).n (hk).f0 (by decide) rfl (by decide) k15 rfl dX3_pushWord_15 ?_
    refine lv_aload_n hx hb dX3_pushWord_18 rfl (lv_at hl 0 rfl) ?_
    refine w_gi 3 1 (T := TX3) (N := 2) hx hb hts in3 hown hK.1 hM (hk).lt (hk).k (hk).n (hk).f1 (by decide) rfl (by decide) k21 rfl dX3_pushWord_19 ?_
    refine lv_eqi (show V k 1 = nI l0.length from hr0.1) ?_
    refine lv_iload_n hx hb dX3_pushWord_22 rfl (lv_at hl 1 rfl) ?_
    refine lv_bipush (v := 24) hx hb dX3_pushWord_23 (by decide) ?_
    refine lv_iushr hx hb dX3_pushWord_25 rfl ?_
    refine w_ist hx hb hK.1 hM hS (hk).lt1 (hk).ak (hk).an (vp_in_nI (by omega) (by omega)) dX3_pushWord_26 (fun H locs hM hS => ?_)
    generalize hV26 : up2 V (k + 1) (nI l0.length).toNatClampNeg ((w.toUInt32 >>> ((24 : Int32).toUInt32 &&& Int32.toUInt32 31)).toInt32) = V26 at hM
    refine lv_aload_n hx hb dX3_pushWord_27 rfl (lv_at hl 0 rfl) ?_
    refine w_gr 3 0 (k + 1) (T := TX3) (N := 2) hx hb hts in3 hown hK.1 hM (hk).lt (hk).k (hk).n (hk).f0 (by decide) rfl (by decide) k15 rfl dX3_pushWord_28 ?_
    refine lv_aload_n hx hb dX3_pushWord_31 rfl (lv_at hl 0 rfl) ?_
    refine w_gi 3 1 (T := TX3) (N := 2) hx hb hts in3 hown hK.1 hM (hk).lt (hk).k (hk).n (hk).f1 (by decide) rfl (by decide) k21 rfl dX3_pushWord_32 ?_
    refine lv_eqi (show V26 k 1 = nI l0.length from by rw [← hV26, up2_k _ _ (by omega)]; exact hr0.1) ?_
    refine lv_iconst (v := 1) hx hb dX3_pushWord_35 (by decide) ?_
    refine lv_iadd hx hb dX3_pushWord_36 ?_
    refine lv_iload_n hx hb dX3_pushWord_37 rfl (lv_at hl 1 rfl) ?_
    refine lv_bipush (v := 16) hx hb dX3_pushWord_38 (by decide) ?_
    refine lv_iushr hx hb dX3_pushWord_40 rfl ?_
    refine lv_sipush (v := 255) hx hb dX3_pushWord_41 (by decide) ?_
    refine lv_iand hx hb dX3_pushWord_44 ?_
    refine w_ist hx hb hK.1 hM hS (hk).lt1 (hk).ak (hk).an (by rw [n1]; exact vp_in_nI (by omega) (by omega)) dX3_pushWord_45 (fun H locs hM hS => ?_)
    generalize hV45 : up2 V26 (k + 1) ((nI l0.length) + 1).toNatClampNeg (((w.toUInt32 >>> ((16 : Int32).toUInt32 &&& Int32.toUInt32 31)).toInt32) &&& 255) = V45 at hM
    refine lv_aload_n hx hb dX3_pushWord_46 rfl (lv_at hl 0 rfl) ?_
    refine w_gr 3 0 (k + 1) (T := TX3) (N := 2) hx hb hts in3 hown hK.1 hM (hk).lt (hk).k (hk).n (hk).f0 (by decide) rfl (by decide) k15 rfl dX3_pushWord_47 ?_
    refine lv_aload_n hx hb dX3_pushWord_50 rfl (lv_at hl 0 rfl) ?_
    refine w_gi 3 1 (T := TX3) (N := 2) hx hb hts in3 hown hK.1 hM (hk).lt (hk).k (hk).n (hk).f1 (by decide) rfl (by decide) k21 rfl dX3_pushWord_51 ?_
    refine lv_eqi (show V45 k 1 = nI l0.length from by rw [← hV45, up2_k _ _ (by omega)]; exact by rw [← hV26, up2_k _ _ (by omega)]; exact hr0.1) ?_
    refine lv_iconst (v := 2) hx hb dX3_pushWord_54 (by decide) ?_
    refine lv_iadd hx hb dX3_pushWord_55 ?_
    refine lv_iload_n hx hb dX3_pushWord_56 rfl (lv_at hl 1 rfl) ?_
    refine lv_bipush (v := 8) hx hb dX3_pushWord_57 (by decide) ?_
    refine lv_iushr hx hb dX3_pushWord_59 rfl ?_
    refine lv_sipush (v := 255) hx hb dX3_pushWord_60 (by decide) ?_
    refine lv_iand hx hb dX3_pushWord_63 ?_
    refine w_ist hx hb hK.1 hM hS (hk).lt1 (hk).ak (hk).an (by rw [n2]; exact vp_in_nI (by omega) (by omega)) dX3_pushWord_64 (fun H locs hM hS => ?_)
    generalize hV64 : up2 V45 (k + 1) ((nI l0.length) + 2).toNatClampNeg (((w.toUInt32 >>> ((8 : Int32).toUInt32 &&& Int32.toUInt32 31)).toInt32) &&& 255) = V64 at hM
    refine lv_aload_n hx hb dX3_pushWord_65 rfl (lv_at hl 0 rfl) ?_
    refine w_gr 3 0 (k + 1) (T := TX3) (N := 2) hx hb hts in3 hown hK.1 hM (hk).lt (hk).k (hk).n (hk).f0 (by decide) rfl (by decide) k15 rfl dX3_pushWord_66 ?_
    refine lv_aload_n hx hb dX3_pushWord_69 rfl (lv_at hl 0 rfl) ?_
    refine w_gi 3 1 (T := TX3) (N := 2) hx hb hts in3 hown hK.1 hM (hk).lt (hk).k (hk).n (hk).f1 (by decide) rfl (by decide) k21 rfl dX3_pushWord_70 ?_
    refine lv_eqi (show V64 k 1 = nI l0.length from by rw [← hV64, up2_k _ _ (by omega)]; exact by rw [← hV45, up2_k _ _ (by omega)]; exact by rw [← hV26, up2_k _ _ (by omega)]; exact hr0.1) ?_
    refine lv_iconst (v := 3) hx hb dX3_pushWord_73 (by decide) ?_
    refine lv_iadd hx hb dX3_pushWord_74 ?_
    refine lv_iload_n hx hb dX3_pushWord_75 rfl (lv_at hl 1 rfl) ?_
    refine lv_sipush (v := 255) hx hb dX3_pushWord_76 (by decide) ?_
    refine lv_iand hx hb dX3_pushWord_79 ?_
    refine w_ist hx hb hK.1 hM hS (hk).lt1 (hk).ak (hk).an (by rw [n3]; exact vp_in_nI (by omega) (by omega)) dX3_pushWord_80 (fun H locs hM hS => ?_)
    generalize hV80 : up2 V64 (k + 1) ((nI l0.length) + 3).toNatClampNeg (w &&& 255) = V80 at hM
    refine lv_aload_n hx hb dX3_pushWord_81 rfl (lv_at hl 0 rfl) ?_
    refine lv_dup hx hb dX3_pushWord_82 rfl ?_
    refine w_gi 3 1 (T := TX3) (N := 2) hx hb hts in3 hown hK.1 hM (hk).lt (hk).k (hk).n (hk).f1 (by decide) rfl (by decide) k21 rfl dX3_pushWord_83 ?_
    refine lv_eqi (show V80 k 1 = nI l0.length from by rw [← hV80, up2_k _ _ (by omega)]; exact by rw [← hV64, up2_k _ _ (by omega)]; exact by rw [← hV45, up2_k _ _ (by omega)]; exact by rw [← hV26, up2_k _ _ (by omega)]; exact hr0.1) ?_
    refine lv_iconst (v := 4) hx hb dX3_pushWord_86 (by decide) ?_
    refine lv_iadd hx hb dX3_pushWord_87 ?_
    refine w_pi 3 1 (T := TX3) (N := 2) hx hb hts in3 tyX3 tyX3_ok nmX3 hown hK.1 hM hS (hk).lt (hk).k (hk).n (hk).f1 (by decide) rfl (by decide) k21 rfl rfl rfl rfl dX3_pushWord_88 (fun H locs hM hS => ?_)
    generalize hV88 : up2 V80 k 1 ((nI l0.length) + 4) = V88 at hM
    exact w_vret (free := AE E) V88 hx hb hr hK hS hM (row_word rfl hr0 (by omega) hV26 hV45 hV64 hV80 hV88) hlocks dX3_pushWord_91

set_option maxHeartbeats 4000000 in
set_option maxRecDepth 100000 in
theorem c_X3_pushZeros (l : Launch) {E : En} {V : Vt} {k cap : Nat} (hk : isRow k cap) {l0 : List Int32} (hr0 : rowIs V k l0) {n : Nat} (hc : l0.length + n ≤ cap) : CV l yX3_pushZeros wsX3_pushZeros 0 E V [.ref (E.1 + k), .int (nI n)] (fun V' => rowIs V' k (l0 ++ List.replicate n 0) ∧ frR V V' k) := by
  refine Met.ofW (cc := cX3_pushZeros) (maxL := 3) (ret := none) (by decide) rfl ?_
  intro p e s m args below meth c s₁ B hml hv
  obtain ⟨rfl, hM, hK⟩ := hv
  have hx := B.exec
  have hb := B.bytes
  have hr := B.returns
  have hts := atoms_spec (ws := wsX3_pushZeros) B.pre
  have hown : s.vm.findClass RX3 = some m.cls := findClass_of_methodNamed B.named
  have hlocks := B.notSynchronized
  have hsz : s.heap.size = E.1 + 610 := hM.1
  have hS : va_S (AE E) s.heap s.heap [] := va_S.rf
  have in3 : ∀ w ∈ u_ws RX3 TX3 2, w ∈ wsX3_pushZeros := by decide +kernel
  have k21 := hts (.fieldLink RX3 21 "LimitTokens$Row" "length" "I") (by decide +kernel)
  have k15 := hts (.fieldLink RX3 15 "LimitTokens$Row" "bytes" "[I") (by decide +kernel)
  have hl := lv_entry ([.ref (E.1 + k), .int (nI n)]) (n := 3) (Nat.le_of_ble_eq_true rfl)
  rw [lg_entry_eq]
  generalize (lg_sl ([.ref (E.1 + k), .int (nI n)]) ++ List.replicate (3 - (lg_sl ([.ref (E.1 + k), .int (nI n)])).length) Slot.unset).toArray = ls at hl ⊢
  have hl : lv_has ls 3 [(0, .ref (E.1 + k)), (1, .int (nI n))] := hl
  have hcap := hk.cap
  refine lv_iconst (v := 0) hx hb dX3_pushZeros_0 (by decide) ?_
  refine lv_istore_n (lv' := [(2, .int 0), (0, .ref (E.1 + k)), (1, .int (nI n))]) hx hb dX3_pushZeros_1 rfl hl (by decide) rfl (fun ls hl => ?_)
  have loop2 : ∀ (fu : Nat) (Vw : Vt) (H : Heap) (locs : List Loc) (ls : Array Slot) (j : Nat) (x : Int32) (ex : x = nI j) (hj : j ≤ n) (hr1 : rowIs Vw k (l0 ++ List.replicate j 0)) (hf1 : frR V Vw k), n - j < fu → Wd E Vw H → va_S (AE E) s.heap H locs → lv_has ls 3 [(0, .ref (E.1 + k)), (1, .int (nI n)), (2, .int x)] → W p l e (headSpec wsX3_pushZeros (rmD 0)).room s m ([.ref (E.1 + k), .int (nI n)] : List Value).toArray below meth c H locs 0 0 (MQ below (QV E (fun V' => Wd E V') (fun V' => rowIs V' k (l0 ++ List.replicate n 0) ∧ frR V V' k)) ([.ref (E.1 + k), .int (nI n)] : List Value).toArray s 0 0 (AE E)) (F0 m 2 ls []) := by
    intro fu
    induction fu with
    | zero => intros; omega
    | succ fu ih =>
      intro Vw H locs ls j x ex hj hr1 hf1 hfu hM hS hl
      have hlen : (l0 ++ List.replicate j (0 : Int32)).length = l0.length + j := by simp
      refine lv_iload_n hx hb dX3_pushZeros_2 rfl (lv_at hl 2 rfl) ?_
      refine lv_iload_n hx hb dX3_pushZeros_3 rfl (lv_at hl 1 rfl) ?_
      refine lv_icmp_ge (tgt := 45) hx hb dX3_pushZeros_4 (by decide) (fun c_4 => ?_) (fun c_4 => ?_)
      · exact w_vret (free := AE E) Vw hx hb hr hK hS hM (by
    have : j = n := by
      rcases Nat.lt_or_ge j n with q | q
      · exact absurd c_4 (by rw [ex]; exact nI_ge q (by omega))
      · omega
    subst this; exact ⟨hr1, hf1⟩) hlocks dX3_pushZeros_45
      · have hlt : j < n := by
          rcases Nat.lt_or_ge j n with q | q
          · exact q
          · exact absurd (by rw [ex]; exact nI_le q (by omega)) c_4
        refine lv_aload_n hx hb dX3_pushZeros_7 rfl (lv_at hl 0 rfl) ?_
        refine w_gi 3 1 (T := TX3) (N := 2) hx hb hts in3 hown hK.1 hM (hk).lt (hk).k (hk).n (hk).f1 (by decide) rfl (by decide) k21 rfl dX3_pushZeros_8 ?_
        refine lv_eqi (show Vw k 1 = nI (l0 ++ List.replicate j 0).length from hr1.1) ?_
        refine lv_aload_n hx hb dX3_pushZeros_11 rfl (lv_at hl 0 rfl) ?_
        refine w_gr 3 0 (k + 1) (T := TX3) (N := 2) hx hb hts in3 hown hK.1 hM (hk).lt (hk).k (hk).n (hk).f0 (by decide) rfl (by decide) k15 rfl dX3_pushZeros_12 ?_
        refine w_len hx hb hK.1 hM (hk).lt1 (hk).ak (hk).an dX3_pushZeros_15 ?_
        refine lv_icmp_ge (tgt := 45) hx hb dX3_pushZeros_16 (by decide) (fun c_16 => ?_) (fun c_16 => ?_)
        · exact absurd c_16 (nI_ge (by omega) (by omega))
        · refine lv_aload_n hx hb dX3_pushZeros_19 rfl (lv_at hl 0 rfl) ?_
          refine w_gr 3 0 (k + 1) (T := TX3) (N := 2) hx hb hts in3 hown hK.1 hM (hk).lt (hk).k (hk).n (hk).f0 (by decide) rfl (by decide) k15 rfl dX3_pushZeros_20 ?_
          refine lv_aload_n hx hb dX3_pushZeros_23 rfl (lv_at hl 0 rfl) ?_
          refine w_gi 3 1 (T := TX3) (N := 2) hx hb hts in3 hown hK.1 hM (hk).lt (hk).k (hk).n (hk).f1 (by decide) rfl (by decide) k21 rfl dX3_pushZeros_24 ?_
          refine lv_eqi (show Vw k 1 = nI (l0 ++ List.replicate j 0).length from hr1.1) ?_
          refine lv_iconst (v := 0) hx hb dX3_pushZeros_27 (by decide) ?_
          refine w_ist hx hb hK.1 hM hS (hk).lt1 (hk).ak (hk).an (vp_in_nI (by omega) (by omega)) dX3_pushZeros_28 (fun H locs hM hS => ?_)
          generalize hV28 : up2 Vw (k + 1) (nI (l0 ++ List.replicate j 0).length).toNatClampNeg 0 = V28 at hM
          refine lv_aload_n hx hb dX3_pushZeros_29 rfl (lv_at hl 0 rfl) ?_
          refine lv_dup hx hb dX3_pushZeros_30 rfl ?_
          refine w_gi 3 1 (T := TX3) (N := 2) hx hb hts in3 hown hK.1 hM (hk).lt (hk).k (hk).n (hk).f1 (by decide) rfl (by decide) k21 rfl dX3_pushZeros_31 ?_
          refine lv_eqi (show V28 k 1 = nI (l0 ++ List.replicate j 0).length from by rw [← hV28, up2_k _ _ (by omega)]; exact hr1.1) ?_
          refine lv_iconst (v := 1) hx hb dX3_pushZeros_34 (by decide) ?_
          refine lv_iadd hx hb dX3_pushZeros_35 ?_
          refine w_pi 3 1 (T := TX3) (N := 2) hx hb hts in3 tyX3 tyX3_ok nmX3 hown hK.1 hM hS (hk).lt (hk).k (hk).n (hk).f1 (by decide) rfl (by decide) k21 rfl rfl rfl rfl dX3_pushZeros_36 (fun H locs hM hS => ?_)
          generalize hV36 : up2 V28 k 1 ((nI (l0 ++ List.replicate j 0).length) + 1) = V36 at hM
          obtain ⟨x2_39, ex2_39⟩ : ∃ y : Int32, y = x + 1 := ⟨_, rfl⟩
          refine lv_iinc (v := x2_39) (lv' := [(2, .int x2_39), (0, .ref (E.1 + k)), (1, .int (nI n))]) hx hb dX3_pushZeros_39 hl (k := 2) rfl (by rw [ex2_39]; rfl) (by decide) rfl (fun ls hl => ?_)
          refine lv_goto (tgt := 2) hx hb dX3_pushZeros_42 (by decide) ?_
          exact ih V36 _ _ _ (j + 1) _ (by rw [ex2_39, ex, nI_1]) (by omega) (by have := (row_push hr1 (by omega) hV28 hV36).1; rw [List.append_assoc] at this; simpa [List.replicate_succ'] using this) (hf1.trans (row_push hr1 (by omega) hV28 hV36).2) (by omega) hM hS (lv_sub hl [1, 2, 0] rfl)
  exact loop2 _ V _ _ _ 0 0 (rfl) (Nat.zero_le n) (by simpa using hr0) (frR.rf) (Nat.lt_succ_self _) hM hS (lv_sub hl [1, 2, 0] rfl)

set_option maxHeartbeats 4000000 in
set_option maxRecDepth 100000 in
theorem c_X3_pushPart (l : Launch) {E : En} {V : Vt} {k cap k2 cap2 : Nat} (hk : isRow k cap) (hk2 : isRow k2 cap2) (hne : k ≠ k2) {l0 l2 : List Int32} (hr0 : rowIs V k l0) (hr2 : rowIs V k2 l2) (h2l : l2.length ≤ cap2) {a n : Nat} (ha : a + n ≤ l2.length) (hc : l0.length + n ≤ cap) : CV l yX3_pushPart wsX3_pushPart 1 E V [.ref (E.1 + k), .ref (E.1 + k2), .int (nI a), .int (nI n)] (fun V' => rowIs V' k (l0 ++ (l2.drop a).take n) ∧ frR V V' k) := by
  refine Met.ofW (cc := cX3_pushPart) (maxL := 4) (ret := none) (by decide) rfl ?_
  intro p e s m args below meth c s₁ B hml hv
  obtain ⟨rfl, hM, hK⟩ := hv
  have hx := B.exec
  have hb := B.bytes
  have hr := B.returns
  have hts := atoms_spec (ws := wsX3_pushPart) B.pre
  have hown : s.vm.findClass RX3 = some m.cls := findClass_of_methodNamed B.named
  have hlocks := B.notSynchronized
  have hsz : s.heap.size = E.1 + 610 := hM.1
  have hS : va_S (AE E) s.heap s.heap [] := va_S.rf
  have in3 : ∀ w ∈ u_ws RX3 TX3 2, w ∈ wsX3_pushPart := by decide +kernel
  have k21 := hts (.fieldLink RX3 21 "LimitTokens$Row" "length" "I") (by decide +kernel)
  have k15 := hts (.fieldLink RX3 15 "LimitTokens$Row" "bytes" "[I") (by decide +kernel)
  have hl := lv_entry ([.ref (E.1 + k), .ref (E.1 + k2), .int (nI a), .int (nI n)]) (n := 4) (Nat.le_of_ble_eq_true rfl)
  rw [lg_entry_eq]
  generalize (lg_sl ([.ref (E.1 + k), .ref (E.1 + k2), .int (nI a), .int (nI n)]) ++ List.replicate (4 - (lg_sl ([.ref (E.1 + k), .ref (E.1 + k2), .int (nI a), .int (nI n)])).length) Slot.unset).toArray = ls at hl ⊢
  have hl : lv_has ls 4 [(0, .ref (E.1 + k)), (1, .ref (E.1 + k2)), (2, .int (nI a)), (3, .int (nI n))] := hl
  have hcap := hk.cap
  have hcap2 := hk2.cap
  have n1 : nI l2.length - nI a = nI (l2.length - a) := pk_sub (by omega)
  have n2 : nI cap - nI l0.length = nI (cap - l0.length) := pk_sub (by omega)
  refine lv_iload_n hx hb dX3_pushPart_0 rfl (lv_at hl 2 rfl) ?_
  refine lv_if_lt (tgt := 59) hx hb dX3_pushPart_1 (by decide) (fun c_1 => ?_) (fun c_1 => ?_)
  · exact absurd c_1 (nI_pos (by omega))
  · refine lv_iload_n hx hb dX3_pushPart_4 rfl (lv_at hl 3 rfl) ?_
    refine lv_if_lt (tgt := 59) hx hb dX3_pushPart_5 (by decide) (fun c_5 => ?_) (fun c_5 => ?_)
    · exact absurd c_5 (nI_pos (by omega))
    · refine lv_iload_n hx hb dX3_pushPart_8 rfl (lv_at hl 3 rfl) ?_
      refine lv_aload_n hx hb dX3_pushPart_9 rfl (lv_at hl 1 rfl) ?_
      refine w_gi 3 1 (T := TX3) (N := 2) hx hb hts in3 hown hK.1 hM (hk2).lt (hk2).k (hk2).n (hk2).f1 (by decide) rfl (by decide) k21 rfl dX3_pushPart_10 ?_
      refine lv_eqi (show V k2 1 = nI l2.length from hr2.1) ?_
      refine lv_iload_n hx hb dX3_pushPart_13 rfl (lv_at hl 2 rfl) ?_
      refine lv_isub hx hb dX3_pushPart_14 ?_
      refine lv_icmp_gt (tgt := 59) hx hb dX3_pushPart_15 (by decide) (fun c_15 => ?_) (fun c_15 => ?_)
      · exact absurd c_15 (by rw [n1]; exact nI_nlt (by omega) (by omega))
      · refine lv_iload_n hx hb dX3_pushPart_18 rfl (lv_at hl 3 rfl) ?_
        refine lv_aload_n hx hb dX3_pushPart_19 rfl (lv_at hl 0 rfl) ?_
        refine w_gr 3 0 (k + 1) (T := TX3) (N := 2) hx hb hts in3 hown hK.1 hM (hk).lt (hk).k (hk).n (hk).f0 (by decide) rfl (by decide) k15 rfl dX3_pushPart_20 ?_
        refine w_len hx hb hK.1 hM (hk).lt1 (hk).ak (hk).an dX3_pushPart_23 ?_
        refine lv_aload_n hx hb dX3_pushPart_24 rfl (lv_at hl 0 rfl) ?_
        refine w_gi 3 1 (T := TX3) (N := 2) hx hb hts in3 hown hK.1 hM (hk).lt (hk).k (hk).n (hk).f1 (by decide) rfl (by decide) k21 rfl dX3_pushPart_25 ?_
        refine lv_eqi (show V k 1 = nI l0.length from hr0.1) ?_
        refine lv_isub hx hb dX3_pushPart_28 ?_
        refine lv_icmp_gt (tgt := 59) hx hb dX3_pushPart_29 (by decide) (fun c_29 => ?_) (fun c_29 => ?_)
        · exact absurd c_29 (by rw [n2]; exact nI_nlt (by omega) (by omega))
        · refine lv_aload_n hx hb dX3_pushPart_32 rfl (lv_at hl 1 rfl) ?_
          refine w_gr 3 0 (k2 + 1) (T := TX3) (N := 2) hx hb hts in3 hown hK.1 hM (hk2).lt (hk2).k (hk2).n (hk2).f0 (by decide) rfl (by decide) k15 rfl dX3_pushPart_33 ?_
          refine lv_iload_n hx hb dX3_pushPart_36 rfl (lv_at hl 2 rfl) ?_
          refine lv_aload_n hx hb dX3_pushPart_37 rfl (lv_at hl 0 rfl) ?_
          refine w_gr 3 0 (k + 1) (T := TX3) (N := 2) hx hb hts in3 hown hK.1 hM (hk).lt (hk).k (hk).n (hk).f0 (by decide) rfl (by decide) k15 rfl dX3_pushPart_38 ?_
          refine lv_aload_n hx hb dX3_pushPart_41 rfl (lv_at hl 0 rfl) ?_
          refine w_gi 3 1 (T := TX3) (N := 2) hx hb hts in3 hown hK.1 hM (hk).lt (hk).k (hk).n (hk).f1 (by decide) rfl (by decide) k21 rfl dX3_pushPart_42 ?_
          refine lv_eqi (show V k 1 = nI l0.length from hr0.1) ?_
          refine lv_iload_n hx hb dX3_pushPart_45 rfl (lv_at hl 3 rfl) ?_
          refine w_cpy hx hb (hml.trans hl.1.symm) hown (hts (.methodLink RX3 29 arraycopyName) (by decide +kernel)) (hts (.native arraycopyName) (by decide +kernel)) (hts (.static arraycopyName) (by decide +kernel)) (hts (.initialized "java/lang/System") (by decide +kernel)) hK hM hsz hS (k0 := k2 + 1) (k1 := k + 1) (by omega) (hk2).lt1 (hk).lt1 (hk2).ak (hk).ak (hk2).an (hk).an (nI_pos (by omega)) (nI_pos (by omega)) (nI_pos (by omega)) (by rw [nI_clamp (by omega), nI_clamp (by omega)]; omega) (by rw [nI_clamp (by omega), nI_clamp (by omega)]; omega) (Nat.le_of_ble_eq_true rfl) (Nat.le_of_ble_eq_true rfl) dX3_pushPart_46 (fun H locs hM hS => ?_)
          rw [nI_clamp (n := a) (by omega), nI_clamp (n := l0.length) (by omega), nI_clamp (n := n) (by omega)] at hM
          generalize hV46 : va_up V (k + 1) (va_cpy (V (k2 + 1)) (V (k + 1)) a l0.length n) = V46 at hM
          refine lv_aload_n hx hb dX3_pushPart_49 rfl (lv_at hl 0 rfl) ?_
          refine lv_dup hx hb dX3_pushPart_50 rfl ?_
          refine w_gi 3 1 (T := TX3) (N := 2) hx hb hts in3 hown hK.1 hM (hk).lt (hk).k (hk).n (hk).f1 (by decide) rfl (by decide) k21 rfl dX3_pushPart_51 ?_
          refine lv_eqi (show V46 k 1 = nI l0.length from by rw [← hV46]; simp only [va_up, show ¬ k = k + 1 by omega, if_false]; exact hr0.1) ?_
          refine lv_iload_n hx hb dX3_pushPart_54 rfl (lv_at hl 3 rfl) ?_
          refine lv_iadd hx hb dX3_pushPart_55 ?_
          refine w_pi 3 1 (T := TX3) (N := 2) hx hb hts in3 tyX3 tyX3_ok nmX3 hown hK.1 hM hS (hk).lt (hk).k (hk).n (hk).f1 (by decide) rfl (by decide) k21 rfl rfl rfl rfl dX3_pushPart_56 (fun H locs hM hS => ?_)
          generalize hV56 : up2 V46 k 1 ((nI l0.length) + (nI n)) = V56 at hM
          exact w_vret (free := AE E) V56 hx hb hr hK hS hM (row_cpy hr0 hr2 ha hV46 (by rw [← nI_add]; exact hV56)) hlocks dX3_pushPart_59

set_option maxHeartbeats 4000000 in
set_option maxRecDepth 100000 in
theorem c_X3_pushAll (l : Launch) {E : En} {V : Vt} {k cap k2 cap2 : Nat} (hk : isRow k cap) (hk2 : isRow k2 cap2) (hne : k ≠ k2) {l0 l2 : List Int32} (hr0 : rowIs V k l0) (hr2 : rowIs V k2 l2) (h2l : l2.length ≤ cap2) (hc : l0.length + l2.length ≤ cap) : CV l yX3_pushAll wsX3_pushAll 2 E V [.ref (E.1 + k), .ref (E.1 + k2)] (fun V' => rowIs V' k (l0 ++ l2) ∧ frR V V' k) := by
  refine Met.ofW (cc := cX3_pushAll) (maxL := 2) (ret := none) (by decide) rfl ?_
  intro p e s m args below meth c s₁ B hml hv
  obtain ⟨rfl, hM, hK⟩ := hv
  have hx := B.exec
  have hb := B.bytes
  have hr := B.returns
  have hts := atoms_spec (ws := wsX3_pushAll) B.pre
  have hown : s.vm.findClass RX3 = some m.cls := findClass_of_methodNamed B.named
  have hlocks := B.notSynchronized
  have hsz : s.heap.size = E.1 + 610 := hM.1
  have hS : va_S (AE E) s.heap s.heap [] := va_S.rf
  have in3 : ∀ w ∈ u_ws RX3 TX3 2, w ∈ wsX3_pushAll := by decide +kernel
  have k21 := hts (.fieldLink RX3 21 "LimitTokens$Row" "length" "I") (by decide +kernel)
  have hl := lv_entry ([.ref (E.1 + k), .ref (E.1 + k2)]) (n := 2) (Nat.le_of_ble_eq_true rfl)
  rw [lg_entry_eq]
  generalize (lg_sl ([.ref (E.1 + k), .ref (E.1 + k2)]) ++ List.replicate (2 - (lg_sl ([.ref (E.1 + k), .ref (E.1 + k2)])).length) Slot.unset).toArray = ls at hl ⊢
  have hl : lv_has ls 2 [(0, .ref (E.1 + k)), (1, .ref (E.1 + k2))] := hl
  refine lv_aload_n hx hb dX3_pushAll_0 rfl (lv_at hl 0 rfl) ?_
  refine lv_aload_n hx hb dX3_pushAll_1 rfl (lv_at hl 1 rfl) ?_
  refine lv_iconst (v := 0) hx hb dX3_pushAll_2 (by decide) ?_
  refine lv_aload_n hx hb dX3_pushAll_3 rfl (lv_at hl 1 rfl) ?_
  refine w_gi 3 1 (T := TX3) (N := 2) hx hb hts in3 hown hK.1 hM (hk2).lt (hk2).k (hk2).n (hk2).f1 (by decide) rfl (by decide) k21 rfl dX3_pushAll_4 ?_
  refine lv_eqi (show V k2 1 = nI l2.length from hr2.1) ?_
  refine w_cVv (C := RX3) (As := [.ref (E.1 + k2), .int 0, .int (nI l2.length)]) (rest := []) ⟨hx, hb, hml, hown, hts⟩ (c_X3_pushPart l hk hk2 hne hr0 hr2 h2l (a := 0) (n := l2.length) (by omega) hc) (cwV 3 hts gX3_pushAll_X3_pushPart rfl rfl rfl (by decide +kernel) ⟨Nat.le_of_ble_eq_true rfl, Nat.le_of_ble_eq_true rfl⟩) (w_recv hK hM (hk).lt (hk).k (by decide) rfl) hM hK hS rfl hl.1 rfl (lv_room (Nat.le_of_ble_eq_true rfl)) dX3_pushAll_7 ⟨Nat.le_of_ble_eq_true rfl, Nat.le_of_ble_eq_true rfl⟩ (fun V7 H locs hp7 hM hS => ?_)
  exact w_vret (free := AE E) V7 hx hb hr hK hS hM (by simpa using hp7) hlocks dX3_pushAll_10

set_option maxHeartbeats 4000000 in
set_option maxRecDepth 100000 in
theorem c_X3_takeOver (l : Launch) {E : En} {V : Vt} {k cap k2 cap2 : Nat} (hk : isRow k cap) (hk2 : isRow k2 cap2) {l2 : List Int32} (hr2 : rowIs V k2 l2) (h2l : l2.length ≤ cap2) (hc : l2.length ≤ cap) : CV l yX3_takeOver wsX3_takeOver 2 E V [.ref (E.1 + k), .ref (E.1 + k2)] (fun V' => rowIs V' k l2 ∧ frR V V' k) := by
  refine Met.ofW (cc := cX3_takeOver) (maxL := 2) (ret := none) (by decide) rfl ?_
  intro p e s m args below meth c s₁ B hml hv
  obtain ⟨rfl, hM, hK⟩ := hv
  have hx := B.exec
  have hb := B.bytes
  have hr := B.returns
  have hts := atoms_spec (ws := wsX3_takeOver) B.pre
  have hown : s.vm.findClass RX3 = some m.cls := findClass_of_methodNamed B.named
  have hlocks := B.notSynchronized
  have hsz : s.heap.size = E.1 + 610 := hM.1
  have hS : va_S (AE E) s.heap s.heap [] := va_S.rf
  have in3 : ∀ w ∈ u_ws RX3 TX3 2, w ∈ wsX3_takeOver := by decide +kernel
  have k21 := hts (.fieldLink RX3 21 "LimitTokens$Row" "length" "I") (by decide +kernel)
  have hl := lv_entry ([.ref (E.1 + k), .ref (E.1 + k2)]) (n := 2) (Nat.le_of_ble_eq_true rfl)
  rw [lg_entry_eq]
  generalize (lg_sl ([.ref (E.1 + k), .ref (E.1 + k2)]) ++ List.replicate (2 - (lg_sl ([.ref (E.1 + k), .ref (E.1 + k2)])).length) Slot.unset).toArray = ls at hl ⊢
  have hl : lv_has ls 2 [(0, .ref (E.1 + k)), (1, .ref (E.1 + k2))] := hl
  refine lv_aload_n hx hb dX3_takeOver_0 rfl (lv_at hl 1 rfl) ?_
  refine lv_aload_n hx hb dX3_takeOver_1 rfl (lv_at hl 0 rfl) ?_
  refine lv_acmp_eq (rx := some (E.1 + k2)) (ry := some (E.1 + k)) (tgt := 20) hx hb dX3_takeOver_2 (by decide) (fun c_2 => ?_) (fun c_2 => ?_)
  · exact w_vret (free := AE E) V hx hb hr hK hS hM (by have h9 : k2 = k := (by simpa using c_2); subst h9; exact ⟨hr2, frR.rf⟩) hlocks dX3_takeOver_20
  · have hne : k ≠ k2 := fun h => c_2 (by rw [h])
    refine lv_aload_n hx hb dX3_takeOver_5 rfl (lv_at hl 0 rfl) ?_
    refine lv_iconst (v := 0) hx hb dX3_takeOver_6 (by decide) ?_
    refine w_pi 3 1 (T := TX3) (N := 2) hx hb hts in3 tyX3 tyX3_ok nmX3 hown hK.1 hM hS (hk).lt (hk).k (hk).n (hk).f1 (by decide) rfl (by decide) k21 rfl rfl rfl rfl dX3_takeOver_7 (fun H locs hM hS => ?_)
    generalize hV7 : up2 V k 1 0 = V7 at hM
    have hd : k2 ≠ k + 1 := fun h => by have h1 := hk2.k; rw [h, hk.ak] at h1; omega
    have hd2 : k2 + 1 ≠ k := fun h => by have h1 := hk2.ak; rw [h, hk.k] at h1; omega
    have hr3 : rowIs V7 k2 l2 := by subst hV7; exact hr2.keep (up2_k _ _ (by omega)) (up2_k _ _ (by omega))
    refine lv_aload_n hx hb dX3_takeOver_10 rfl (lv_at hl 0 rfl) ?_
    refine lv_aload_n hx hb dX3_takeOver_11 rfl (lv_at hl 1 rfl) ?_
    refine lv_iconst (v := 0) hx hb dX3_takeOver_12 (by decide) ?_
    refine lv_aload_n hx hb dX3_takeOver_13 rfl (lv_at hl 1 rfl) ?_
    refine w_gi 3 1 (T := TX3) (N := 2) hx hb hts in3 hown hK.1 hM (hk2).lt (hk2).k (hk2).n (hk2).f1 (by decide) rfl (by decide) k21 rfl dX3_takeOver_14 ?_
    refine lv_eqi (show V7 k2 1 = nI l2.length from by rw [← hV7, up2_k _ _ (by omega)]; exact hr2.1) ?_
    refine w_cVv (C := RX3) (As := [.ref (E.1 + k2), .int 0, .int (nI l2.length)]) (rest := []) ⟨hx, hb, hml, hown, hts⟩ (c_X3_pushPart l hk hk2 hne (l0 := []) (by subst hV7; exact rowIs.nil V k) hr3 h2l (a := 0) (n := l2.length) (by omega) (by simpa using hc)) (cwV 3 hts gX3_takeOver_X3_pushPart rfl rfl rfl (by decide +kernel) ⟨Nat.le_of_ble_eq_true rfl, Nat.le_of_ble_eq_true rfl⟩) (w_recv hK hM (hk).lt (hk).k (by decide) rfl) hM hK hS rfl hl.1 rfl (lv_room (Nat.le_of_ble_eq_true rfl)) dX3_takeOver_17 ⟨Nat.le_of_ble_eq_true rfl, Nat.le_of_ble_eq_true rfl⟩ (fun V17 H locs hp17 hM hS => ?_)
    exact w_vret (free := AE E) V17 hx hb hr hK hS hM (by subst hV7; exact ⟨by simpa using hp17.1, (frR.rf.up (Or.inl rfl) _ _).trans hp17.2⟩) hlocks dX3_takeOver_20

set_option maxHeartbeats 4000000 in
set_option maxRecDepth 100000 in
theorem c_X3_flip (l : Launch) {E : En} {V : Vt} {k cap : Nat} (hk : isRow k cap) {l0 : List Int32} (hr0 : rowIs V k l0) (h0l : l0.length ≤ cap) {j : Nat} (hj : j < l0.length) (x : Int32) : CI l yX3_flip wsX3_flip 1 E V [.ref (E.1 + k), .int (nI j), .int x] (fun r V' => r = l0.getD j 0 ^^^ x ∧ rowIs V' k (l0.set j (l0.getD j 0 ^^^ x)) ∧ frR V V' k) := by
  refine Met.ofW (cc := cX3_flip) (maxL := 3) (ret := (some .int)) (by decide) rfl ?_
  intro p e s m args below meth c s₁ B hml hv
  obtain ⟨rfl, hM, hK⟩ := hv
  have hx := B.exec
  have hb := B.bytes
  have hr := B.returns
  have hts := atoms_spec (ws := wsX3_flip) B.pre
  have hown : s.vm.findClass RX3 = some m.cls := findClass_of_methodNamed B.named
  have hlocks := B.notSynchronized
  have hsz : s.heap.size = E.1 + 610 := hM.1
  have hS : va_S (AE E) s.heap s.heap [] := va_S.rf
  have in3 : ∀ w ∈ u_ws RX3 TX3 2, w ∈ wsX3_flip := by decide +kernel
  have k15 := hts (.fieldLink RX3 15 "LimitTokens$Row" "bytes" "[I") (by decide +kernel)
  have hl := lv_entry ([.ref (E.1 + k), .int (nI j), .int x]) (n := 3) (Nat.le_of_ble_eq_true rfl)
  rw [lg_entry_eq]
  generalize (lg_sl ([.ref (E.1 + k), .int (nI j), .int x]) ++ List.replicate (3 - (lg_sl ([.ref (E.1 + k), .int (nI j), .int x])).length) Slot.unset).toArray = ls at hl ⊢
  have hl : lv_has ls 3 [(0, .ref (E.1 + k)), (1, .int (nI j)), (2, .int x)] := hl
  have hcap := hk.cap
  refine lv_aload_n hx hb dX3_flip_0 rfl (lv_at hl 0 rfl) ?_
  refine lv_iload_n hx hb dX3_flip_1 rfl (lv_at hl 1 rfl) ?_
  refine w_cVi (C := RX3) (As := [.int (nI j)]) (rest := []) ⟨hx, hb, hml, hown, hts⟩ (c_X3_has l hk (nI j)) (cwV 1 hts gX3_flip_X3_has rfl rfl rfl (by decide +kernel) ⟨Nat.le_of_ble_eq_true rfl, Nat.le_of_ble_eq_true rfl⟩) (w_recv hK hM (hk).lt (hk).k (by decide) rfl) hM hK hS rfl hl.1 rfl (lv_room (Nat.le_of_ble_eq_true rfl)) dX3_flip_2 ⟨Nat.le_of_ble_eq_true rfl, Nat.le_of_ble_eq_true rfl⟩ (fun r2 V2 H locs hp2 hM hS => ?_)
  obtain ⟨er2, eV⟩ := hp2
  rw [eV] at hM; clear eV
  refine lv_if_ne (tgt := 10) hx hb dX3_flip_5 (by decide) (fun c_5 => ?_) (fun c_5 => ?_)
  · refine lv_aload_n hx hb dX3_flip_10 rfl (lv_at hl 0 rfl) ?_
    refine w_gr 3 0 (k + 1) (T := TX3) (N := 2) hx hb hts in3 hown hK.1 hM (hk).lt (hk).k (hk).n (hk).f0 (by decide) rfl (by decide) k15 rfl dX3_flip_11 ?_
    refine lv_iload_n hx hb dX3_flip_14 rfl (lv_at hl 1 rfl) ?_
    refine lv_dup2_11 hx hb dX3_flip_15 rfl rfl ?_
    refine w_ild hx hb hK.1 hM (hk).lt1 (hk).ak (hk).an (vp_in_nI (by omega) (by omega)) dX3_flip_16 ?_
    refine lv_eqi (show V (k + 1) (nI j).toNatClampNeg = l0.getD j 0 from by rw [nI_clamp (by omega)]; exact hr0.2 j hj) ?_
    refine lv_iload_n hx hb dX3_flip_17 rfl (lv_at hl 2 rfl) ?_
    refine lv_ixor hx hb dX3_flip_18 ?_
    refine w_ist hx hb hK.1 hM hS (hk).lt1 (hk).ak (hk).an (vp_in_nI (by omega) (by omega)) dX3_flip_19 (fun H locs hM hS => ?_)
    generalize hV19 : up2 V (k + 1) (nI j).toNatClampNeg ((l0.getD j 0) ^^^ x) = V19 at hM
    refine lv_aload_n hx hb dX3_flip_20 rfl (lv_at hl 0 rfl) ?_
    refine w_gr 3 0 (k + 1) (T := TX3) (N := 2) hx hb hts in3 hown hK.1 hM (hk).lt (hk).k (hk).n (hk).f0 (by decide) rfl (by decide) k15 rfl dX3_flip_21 ?_
    refine lv_iload_n hx hb dX3_flip_24 rfl (lv_at hl 1 rfl) ?_
    refine w_ild hx hb hK.1 hM (hk).lt1 (hk).ak (hk).an (vp_in_nI (by omega) (by omega)) dX3_flip_25 ?_
    refine lv_eqi (show V19 (k + 1) (nI j).toNatClampNeg = l0.getD j 0 ^^^ x from by subst hV19; exact up2_s _ _ _ _) ?_
    exact w_iret V19 hx hb hr hK hS hM (⟨rfl, row_set hr0 hj (by rw [nI_clamp (by omega)] at hV19; exact hV19)⟩) hlocks dX3_flip_26
  · exact absurd (er2.symm.trans c_5) (by rw [hr0.1, if_pos ⟨nI_pos' (by omega), nI_lt hj (by omega)⟩]; decide)

set_option maxHeartbeats 4000000 in
set_option maxRecDepth 100000 in
theorem c_X3_isSameAs (l : Launch) {E : En} {V : Vt} {k cap k2 cap2 : Nat} (hk : isRow k cap) (hk2 : isRow k2 cap2) {l0 l2 : List Int32} (hr0 : rowIs V k l0) (hr2 : rowIs V k2 l2) (h0l : l0.length ≤ cap) (h2l : l2.length ≤ cap2) : CI l yX3_isSameAs wsX3_isSameAs 0 E V [.ref (E.1 + k), .ref (E.1 + k2)] (fun r V' => r = (if l0 = l2 then 1 else 0) ∧ V' = V) := by
  refine Met.ofW (cc := cX3_isSameAs) (maxL := 3) (ret := (some .boolean)) (by decide) rfl ?_
  intro p e s m args below meth c s₁ B hml hv
  obtain ⟨rfl, hM, hK⟩ := hv
  have hx := B.exec
  have hb := B.bytes
  have hr := B.returns
  have hts := atoms_spec (ws := wsX3_isSameAs) B.pre
  have hown : s.vm.findClass RX3 = some m.cls := findClass_of_methodNamed B.named
  have hlocks := B.notSynchronized
  have hsz : s.heap.size = E.1 + 610 := hM.1
  have hS : va_S (AE E) s.heap s.heap [] := va_S.rf
  have in3 : ∀ w ∈ u_ws RX3 TX3 2, w ∈ wsX3_isSameAs := by decide +kernel
  have k21 := hts (.fieldLink RX3 21 "LimitTokens$Row" "length" "I") (by decide +kernel)
  have k15 := hts (.fieldLink RX3 15 "LimitTokens$Row" "bytes" "[I") (by decide +kernel)
  have hl := lv_entry ([.ref (E.1 + k), .ref (E.1 + k2)]) (n := 3) (Nat.le_of_ble_eq_true rfl)
  rw [lg_entry_eq]
  generalize (lg_sl ([.ref (E.1 + k), .ref (E.1 + k2)]) ++ List.replicate (3 - (lg_sl ([.ref (E.1 + k), .ref (E.1 + k2)])).length) Slot.unset).toArray = ls at hl ⊢
  have hl : lv_has ls 3 [(0, .ref (E.1 + k)), (1, .ref (E.1 + k2))] := hl
  have hcap := hk.cap
  have hcap2 := hk2.cap
  refine lv_aload_n hx hb dX3_isSameAs_0 rfl (lv_at hl 0 rfl) ?_
  refine w_gi 3 1 (T := TX3) (N := 2) hx hb hts in3 hown hK.1 hM (hk).lt (hk).k (hk).n (hk).f1 (by decide) rfl (by decide) k21 rfl dX3_isSameAs_1 ?_
  refine lv_eqi (show V k 1 = nI l0.length from hr0.1) ?_
  refine lv_aload_n hx hb dX3_isSameAs_4 rfl (lv_at hl 1 rfl) ?_
  refine w_gi 3 1 (T := TX3) (N := 2) hx hb hts in3 hown hK.1 hM (hk2).lt (hk2).k (hk2).n (hk2).f1 (by decide) rfl (by decide) k21 rfl dX3_isSameAs_5 ?_
  refine lv_eqi (show V k2 1 = nI l2.length from hr2.1) ?_
  refine lv_icmp_eq (tgt := 13) hx hb dX3_isSameAs_8 (by decide) (fun c_8 => ?_) (fun c_8 => ?_)
  · have hlen : l0.length = l2.length := (nI_eq (by omega) (by omega)).mp c_8
    refine lv_iconst (v := 0) hx hb dX3_isSameAs_13 (by decide) ?_
    refine lv_istore_n (lv' := [(2, .int 0), (0, .ref (E.1 + k)), (1, .ref (E.1 + k2))]) hx hb dX3_isSameAs_14 rfl hl (by decide) rfl (fun ls hl => ?_)
    have loop15 : ∀ (fu : Nat) (Vw : Vt) (H : Heap) (locs : List Loc) (ls : Array Slot) (j : Nat) (x : Int32) (eV : Vw = V) (ex : x = nI j) (hj : j ≤ l0.length) (hq : ∀ i, i < j → V (k + 1) i = l2.getD i 0), l0.length - j < fu → Wd E Vw H → va_S (AE E) s.heap H locs → lv_has ls 3 [(0, .ref (E.1 + k)), (1, .ref (E.1 + k2)), (2, .int x)] → W p l e (headSpec wsX3_isSameAs (rmD 0)).room s m ([.ref (E.1 + k), .ref (E.1 + k2)] : List Value).toArray below meth c H locs 0 0 (MQ below (QI E (fun V' => Wd E V') (fun r V' => r = (if l0 = l2 then 1 else 0) ∧ V' = V)) ([.ref (E.1 + k), .ref (E.1 + k2)] : List Value).toArray s 0 0 (AE E)) (F0 m 15 ls []) := by
      intro fu
      induction fu with
      | zero => intros; omega
      | succ fu ih =>
        intro Vw H locs ls j x eV ex hj hq hfu hM hS hl
        refine lv_iload_n hx hb dX3_isSameAs_15 rfl (lv_at hl 2 rfl) ?_
        refine lv_aload_n hx hb dX3_isSameAs_16 rfl (lv_at hl 0 rfl) ?_
        refine w_gi 3 1 (T := TX3) (N := 2) hx hb hts in3 hown hK.1 hM (hk).lt (hk).k (hk).n (hk).f1 (by decide) rfl (by decide) k21 rfl dX3_isSameAs_17 ?_
        refine lv_eqi (show Vw k 1 = nI l0.length from by rw [eV]; exact hr0.1) ?_
        refine lv_icmp_ge (tgt := 46) hx hb dX3_isSameAs_20 (by decide) (fun c_20 => ?_) (fun c_20 => ?_)
        · refine lv_iconst (v := 1) hx hb dX3_isSameAs_46 (by decide) ?_
          exact w_zret Vw hx hb hr hK hS hM (⟨by rw [if_pos (row_ext hlen hr0 (fun i hi => hq i (by have := nI_lei ex c_20 (by omega) (by omega); omega)))], eV⟩) (rfl) hlocks dX3_isSameAs_47
        · have hlt : j < l0.length := by
            rcases Nat.lt_or_ge j l0.length with q | q
            · exact q
            · exact absurd (by rw [ex]; exact nI_le q (by omega)) c_20
          refine lv_aload_n hx hb dX3_isSameAs_23 rfl (lv_at hl 0 rfl) ?_
          refine w_gr 3 0 (k + 1) (T := TX3) (N := 2) hx hb hts in3 hown hK.1 hM (hk).lt (hk).k (hk).n (hk).f0 (by decide) rfl (by decide) k15 rfl dX3_isSameAs_24 ?_
          refine lv_iload_n hx hb dX3_isSameAs_27 rfl (lv_at hl 2 rfl) ?_
          refine w_ild hx hb hK.1 hM (hk).lt1 (hk).ak (hk).an (by rw [ex]; exact vp_in_nI (by omega) (by omega)) dX3_isSameAs_28 ?_
          refine lv_aload_n hx hb dX3_isSameAs_29 rfl (lv_at hl 1 rfl) ?_
          refine w_gr 3 0 (k2 + 1) (T := TX3) (N := 2) hx hb hts in3 hown hK.1 hM (hk2).lt (hk2).k (hk2).n (hk2).f0 (by decide) rfl (by decide) k15 rfl dX3_isSameAs_30 ?_
          refine lv_iload_n hx hb dX3_isSameAs_33 rfl (lv_at hl 2 rfl) ?_
          refine w_ild hx hb hK.1 hM (hk2).lt1 (hk2).ak (hk2).an (by rw [ex]; exact vp_in_nI (by omega) (by omega)) dX3_isSameAs_34 ?_
          refine lv_icmp_eq (tgt := 40) hx hb dX3_isSameAs_35 (by decide) (fun c_35 => ?_) (fun c_35 => ?_)
          · obtain ⟨x2_40, ex2_40⟩ : ∃ y : Int32, y = x + 1 := ⟨_, rfl⟩
            refine lv_iinc (v := x2_40) (lv' := [(2, .int x2_40), (0, .ref (E.1 + k)), (1, .ref (E.1 + k2))]) hx hb dX3_isSameAs_40 hl (k := 2) rfl (by rw [ex2_40]; rfl) (by decide) rfl (fun ls hl => ?_)
            refine lv_goto (tgt := 15) hx hb dX3_isSameAs_43 (by decide) ?_
            exact ih Vw _ _ _ (j + 1) _ eV (by rw [ex2_40, ex, nI_1]) (by omega) (lt_s hq (by rw [← hr2.2 j (by omega)]; rw [eV, ex, nI_clamp (by omega)] at c_35; exact c_35)) (by omega) hM hS (lv_sub hl [1, 2, 0] rfl)
          · refine lv_iconst (v := 0) hx hb dX3_isSameAs_38 (by decide) ?_
            exact w_zret Vw hx hb hr hK hS hM (⟨by rw [if_neg (fun h => c_35 (by rw [eV, ex, nI_clamp (by omega), hr0.2 j hlt, hr2.2 j (by omega), h]))], eV⟩) (rfl) hlocks dX3_isSameAs_39
    exact loop15 _ V _ _ _ 0 0 (rfl) (rfl) (Nat.zero_le _) (fun i hi => absurd hi (Nat.not_lt_zero i)) (Nat.lt_succ_self _) hM hS (lv_sub hl [1, 2, 0] rfl)
  · refine lv_iconst (v := 0) hx hb dX3_isSameAs_11 (by decide) ?_
    exact w_zret V hx hb hr hK hS hM (⟨by rw [if_neg (fun h => c_8 (by rw [h]))], rfl⟩) (rfl) hlocks dX3_isSameAs_12
end
section
/-! arraycopy out of a table; THE HASH as a function of lists -/
section FTab
variable {p : Program} {l : Launch} {e : Env} {R : Room} {s : State} {m : MethodId} {args : Array Value} {below : List Frame} {meth : Method} {c : Code} {H : Heap} {locs : List Loc} {cells slots : Nat} {Q : State → Prop}
variable {cc : ByteArray} {pc : Nat} {ls : Array Slot} {rest : List Value} {E : En} {V : Vt}
theorem w_cpyT (hx : p.tables.exec = Jvm.exec) (hb : c.code = cc) (hml : c.maxLocals = ls.size) {own : String} {index : Nat} (hown : s.vm.findClass own = some m.cls) (hlink : (Cond.methodLink own index arraycopyName).before args s = true) (hnat : (Cond.native arraycopyName).before args s = true) (hstat : (Cond.static arraycopyName).before args s = true) (hini : (Cond.initialized "java/lang/System").before args s = true)
    (hK : KX E s) (hM : Wd E V H) (hS : va_S (AE E) s.heap H locs) {t0 n0 : Nat} {f : Nat → Int32} (hTb : va_T .int t0 n0 (fun j => .int (f j)) (AE E) s s.heap) {k1 n1 : Nat} (hk1 : k1 < 610) (hs1 : sk k1 = 9) (hn1 : sn k1 = n1)
    {sp dp n : Int32} (h1 : ¬ sp < 0) (h2 : ¬ dp < 0) (h3 : ¬ n < 0) (h4 : sp.toNatClampNeg + n.toNatClampNeg ≤ n0) (h5 : dp.toNatClampNeg + n.toNatClampNeg ≤ n1)
    (hframes : 1 ≤ R.frames) (hlocals : (rest.map fun v => v.category).sum + (nativeFrameWords "java/lang/System" "arraycopy" 5 + 11) ≤ R.locals) (hdg : decode cc pc = .ok (.invokestatic index, 3))
    (kk : ∀ (H1 : Heap) (locs1 : List Loc), Wd E (va_up V k1 (va_cpy f (V k1) sp.toNatClampNeg dp.toNatClampNeg n.toNatClampNeg)) H1 → va_S (AE E) s.heap H1 locs1 → W p l e R s m args below meth c H1 locs1 cells slots Q (F0 m (pc + 3) ls rest)) : W p l e R s m args below meth c H locs cells slots Q (F0 m pc ls (.int n :: .int dp :: .ref (E.1 + k1) :: .int sp :: .ref t0 :: rest)) := by
  have nn : ∀ z : Int32, ¬ z < 0 → z.toInt = (z.toNatClampNeg : Int) := by
    intro z hz
    have hz0 : (0 : Int) ≤ z.toInt := by
      have := Int32.not_lt.mp hz
      simpa using Int32.le_iff_toInt_le.mp this
    show z.toInt = ((z.toInt.toNat : Nat) : Int)
    omega
  intro T hT X
  obtain ⟨scr, hs1', hs2, hs3, hs4, -, hs5, hs7⟩ := hTb
  have hc0 : H[t0]? = some scr := by rw [hS.2.1 t0 (Array.getElem?_eq_some_iff.mp hs1').1 hs7]; exact hs1'
  have hc1 : H[E.1 + k1]? = some (vp_cell (E.2.2 9) (n1, .inl (V k1))) := by
    have h0 := hM.2 k1 hk1
    rw [cont_arr E V (Or.inl hs1), hs1, hn1] at h0
    exact h0
  obtain ⟨hs6, k0, hk0, cm0, hkk0⟩ := hs2
  obtain ⟨-, kk1, hkk, cm1, hkk1⟩ := hK.1.i n1 (fun j => .int (V k1 j))
  obtain ⟨vm', X', step⟩ := X.arraycopy hx hown hlink hnat hstat hini (src := t0) (dst := E.1 + k1) (cs := scr) (cd := vp_cell (E.2.2 9) (n1, .inl (V k1))) (srcPos := sp) (destPos := dp) (n := n) (by rw [hT]; exact hc0) (by rw [hT]; exact hc1)
    hs6 (fun _ h => by cases h) hs3 (fun h => by cases h) hk0 hkk hkk0 hkk1 (by simp [refKind]) h1 h2 h3
    (by rw [nn sp h1, nn n h3]; omega)
    (by rw [nn dp h2, nn n h3]; show ¬ _ > ((arrV (E.2.2 9) n1 (fun j => .int (V k1 j))).slots.size : Int); rw [arrV_size]; omega)
    (fun vm₁ _ i hi => by
      have e : scr.slots.getD (sp.toNatClampNeg + i) .null = .int (f (sp.toNatClampNeg + i)) := by
        rw [Array.getD_eq_getD_getElem?, hs5 _ (by omega)]
        rfl
      refine ⟨?_, ?_⟩
      · rw [e]; rfl
      · rw [e]; exact trivial)
    (g := F0 m pc ls (.int n :: .int dp :: .ref (E.1 + k1) :: .int sp :: .ref t0 :: rest)) rfl (by rw [hml]) (rest := rest) rfl (by rw [hb]; exact hdg) hframes (by show 2 * 0 + _ + _ ≤ _; omega)
  have e1 : copied scr (vp_cell (E.2.2 9) (n1, .inl (V k1))) sp dp n = vp_cell (E.2.2 9) (n1, .inl (va_cpy f (V k1) sp.toNatClampNeg dp.toNatClampNeg n.toNatClampNeg)) := va_copiedX (fun z => .int z) scr (E.2.2 9) f (V k1) hs5 h4
  rw [e1] at X' step
  have hl : E.1 + k1 < H.size := (Array.getElem?_eq_some_iff.mp hc1).1
  generalize hH1 : H.setIfInBounds (E.1 + k1) (vp_cell (E.2.2 9) (n1, .inl (va_cpy f (V k1) sp.toNatClampNeg dp.toNatClampNeg n.toNatClampNeg))) = H1
  have hheap : ((T.setVm vm').setCell (E.1 + k1) (vp_cell (E.2.2 9) (n1, .inl (va_cpy f (V k1) sp.toNatClampNeg dp.toNatClampNeg n.toNatClampNeg)))).heap = H1 := by rw [← hH1, ← hT]; rfl
  have oq : ∀ q : Nat, q ≠ E.1 + k1 → H1[q]? = H[q]? := fun q hq => by rw [← hH1]; simp [Array.getElem?_setIfInBounds, Ne.symm hq]
  have hz : H1.size = H.size := by rw [← hH1]; simp
  have hq : H1[E.1 + k1]? = some (vp_cell (E.2.2 9) (n1, .inl (va_cpy f (V k1) sp.toNatClampNeg dp.toNatClampNeg n.toNatClampNeg))) := by rw [← hH1]; simp [Array.getElem?_setIfInBounds, hl]
  obtain ⟨t, a1, b1⟩ := kk H1 _ (by
      have h := hM.set (x := .inl (E.2.2 9, n1, .inl (va_cpy f (V k1) sp.toNatClampNeg dp.toNatClampNeg n.toNatClampNeg))) hz oq hq
      refine h.congr (fun j hj => ?_)
      by_cases ej : j = k1
      · subst ej
        rw [cont_arr E _ (Or.inl hs1), hs1, hn1]
        simp [va_up]
      · rw [cont_ext E (V := va_up V k1 _) (V' := V) (by simp [va_up, ej])]
        simp [va_up, ej]) ⟨by rw [hz]; exact hS.1, fun q g1 g2 => by
      rw [oq q (fun e => g2 (by rw [e]; exact Nat.le_add_right _ _))]
      exact hS.2.1 q g1 g2, fun q hq => by
      rcases List.mem_append.mp hq with h | h
      · exact hS.2.2 q h
      · obtain ⟨z, -, hz⟩ := List.mem_map.mp h
        rw [← hz]
        exact Nat.le_add_right _ _⟩ _ hheap X'
  exact ⟨t, step t a1, b1⟩
end FTab
def ush (x k : Int32) : Int32 := (x.toUInt32 >>> (k.toUInt32 &&& Int32.toUInt32 31)).toInt32
/-- turned to the right -/
def rt (x k : Int32) : Int32 := ush x k ||| x <<< ((32 - k) &&& 31)
def sg0 (a : Int32) : Int32 := (rt a 7 ^^^ rt a 18) ^^^ ush a 3
def sg1 (b : Int32) : Int32 := (rt b 17 ^^^ rt b 19) ^^^ ush b 10
def wNext (w : Nat → Int32) (t : Nat) : Int32 := ((w (t - 16) + sg0 (w (t - 15))) + w (t - 7)) + sg1 (w (t - 2))
/-- the words as n steps have spread them -/
def sched (w : Nat → Int32) : Nat → Nat → Int32
  | 0 => w
  | n + 1 => upd (sched w n) (16 + n) (wNext (sched w n) (16 + n))
theorem sched_congr {w w' : Nat → Int32} (h : ∀ t, t < 16 → w t = w' t) : ∀ n t, t < 16 + n → sched w n t = sched w' n t := by
  intro n
  induction n with
  | zero => intro t ht; exact h t ht
  | succ n ih =>
    intro t ht
    simp only [sched, upd]
    by_cases e : t = 16 + n
    · rw [if_pos e, if_pos e]
      unfold wNext
      rw [ih (16 + n - 16) (by omega), ih (16 + n - 15) (by omega), ih (16 + n - 7) (by omega), ih (16 + n - 2) (by omega)]
    · rw [if_neg e, if_neg e]
      exact ih t (by omega)
def rX (k w : Int32) (s : Nat → Int32) : Int32 := (((s 7 + ((rt (s 4) 6 ^^^ rt (s 4) 11) ^^^ rt (s 4) 25)) + ((s 4 &&& s 5) ^^^ ((s 4 ^^^ (-1)) &&& s 6))) + k) + w
def rY (s : Nat → Int32) : Int32 := ((rt (s 0) 2 ^^^ rt (s 0) 13) ^^^ rt (s 0) 22) + (((s 0 &&& s 1) ^^^ (s 0 &&& s 2)) ^^^ (s 1 &&& s 2))
def rnd (k w : Int32) (s : Nat → Int32) : Nat → Int32
  | 0 => rX k w s + rY s
  | 1 => s 0
  | 2 => s 1
  | 3 => s 2
  | 4 => s 3 + rX k w s
  | 5 => s 4
  | 6 => s 5
  | _ => s 6
def rnds (w : Nat → Int32) (s : Nat → Int32) : Nat → Nat → Int32
  | 0 => s
  | n + 1 => rnd (cuT.getD n 0) (w n) (rnds w s n)
theorem rnds_congr {w w' s s' : Nat → Int32} (hs : ∀ i, i < 8 → s i = s' i) : ∀ n, (∀ t, t < n → w t = w' t) → ∀ i, i < 8 → rnds w s n i = rnds w' s' n i := by
  intro n
  induction n with
  | zero => intro _ i hi; exact hs i hi
  | succ n ih =>
    intro hw i hi
    have hr := ih (fun t ht => hw t (by omega))
    have hw' := hw n (by omega)
    have hX : rX (cuT.getD n 0) (w n) (rnds w s n) = rX (cuT.getD n 0) (w' n) (rnds w' s' n) := by
      unfold rX; rw [hw', hr 7 (by omega), hr 4 (by omega), hr 5 (by omega), hr 6 (by omega)]
    have hY : rY (rnds w s n) = rY (rnds w' s' n) := by
      unfold rY; rw [hr 0 (by omega), hr 1 (by omega), hr 2 (by omega)]
    simp only [rnds]
    rcases (show i = 0 ∨ i = 1 ∨ i = 2 ∨ i = 3 ∨ i = 4 ∨ i = 5 ∨ i = 6 ∨ i = 7 by omega) with rfl | rfl | rfl | rfl | rfl | rfl | rfl | rfl
    · simp only [rnd]; rw [hX, hY]
    · exact hr 0 (by omega)
    · exact hr 1 (by omega)
    · exact hr 2 (by omega)
    · simp only [rnd]; rw [hX, hr 3 (by omega)]
    · exact hr 4 (by omega)
    · exact hr 5 (by omega)
    · exact hr 6 (by omega)
/-- one block -/
def shaB (h w : Nat → Int32) : Nat → Int32 := fun i => h i + rnds (sched w 48) h 64 i
def be32 (b : Nat → Int32) (a : Nat) : Nat → Int32 := fun t => ((b (a + 4 * t) <<< ((24 : Int32) &&& 31) ||| b (a + 4 * t + 1) <<< ((16 : Int32) &&& 31)) ||| b (a + 4 * t + 2) <<< ((8 : Int32) &&& 31)) ||| b (a + 4 * t + 3)
def shaH (b : Nat → Int32) : Nat → Nat → Int32
  | 0 => fun i => sqT.getD i 0
  | n + 1 => shaB (shaH b n) (be32 b (64 * n))
theorem shaB_congr {h h' w w' : Nat → Int32} (hh : ∀ i, i < 8 → h i = h' i) (hw : ∀ t, t < 16 → w t = w' t) : ∀ i, i < 8 → shaB h w i = shaB h' w' i := by
  intro i hi
  unfold shaB
  rw [hh i hi, rnds_congr hh 64 (fun t ht => sched_congr hw 48 t (by omega)) i hi]
theorem shaH_congr {b b' : Nat → Int32} : ∀ n, (∀ t, t < 64 * n → b t = b' t) → ∀ i, i < 8 → shaH b n i = shaH b' n i := by
  intro n
  induction n with
  | zero => intro _ i _; rfl
  | succ n ih =>
    intro hb i hi
    exact shaB_congr (ih (fun t ht => hb t (by omega))) (fun t ht => by unfold be32; rw [hb _ (by omega), hb _ (by omega), hb _ (by omega), hb _ (by omega)]) i hi
def zN (n : Nat) : Nat := (120 - (n + 1) % 64) % 64
def padL (l : List Int32) : List Int32 := (((l ++ [128]) ++ List.replicate (zN l.length) 0) ++ w4 0) ++ w4 (nI (8 * l.length))
def fL (l : List Int32) : Nat → Int32 := fun i => l.getD i 0
/-- the hash of some bytes -/
def sha (l : List Int32) : List Int32 := (List.range 8).flatMap (fun i => w4 (shaH (fL (padL l)) ((padL l).length / 64) i))
theorem w4_len (w : Int32) : (w4 w).length = 4 := rfl
theorem padL_len (l : List Int32) : (padL l).length = l.length + 9 + zN l.length := by
  simp [padL, w4_len]; omega
theorem padL_mod (l : List Int32) : (padL l).length % 64 = 0 := by
  rw [padL_len]; unfold zN; omega
theorem sha_len (l : List Int32) : (sha l).length = 32 := by
  simp [sha, List.length_flatMap, w4_len]
  decide
/-- THE SEAL -/
def kB (k : List Int32) : List Int32 := (if k.length > 64 then sha k else k) ++ List.replicate (64 - (if k.length > 64 then sha k else k).length) 0
def hmac (k m : List Int32) : List Int32 := sha ((kB k).map (fun x => x ^^^ 92) ++ sha ((kB k).map (fun x => x ^^^ 54) ++ m))
theorem kB_len (k : List Int32) : (kB k).length = 64 := by
  unfold kB
  by_cases h : k.length > 64
  · simp [h, sha_len]
  · simp [h]; omega
theorem hmac_len (k m : List Int32) : (hmac k m).length = 32 := sha_len _
end
section
set_option maxRecDepth 20000 in
theorem ggX4_init_X3_init : GoodIn wsX4_init wsX3_init := goodIn_r _ [19, 20, 2, 3, 21, 22, 23, 24, 4, 25, 40, 41] rfl (by decide +kernel)
set_option maxRecDepth 20000 in
theorem gX4_init_X3_init : GoodIn wsX4_init (wsX3_init) := ggX4_init_X3_init
set_option maxRecDepth 20000 in
theorem ggX4_init_X3_pushZeros : GoodIn wsX4_init wsX3_pushZeros := goodIn_r _ [29, 30, 25, 40, 41] rfl (by decide +kernel)
set_option maxRecDepth 20000 in
theorem gX4_init_X3_pushZeros : GoodIn wsX4_init (wsV RX4 45 RX3 yX3_pushZeros wsX3_pushZeros) := goodIn_app (goodIn_of _ (by decide +kernel)) ggX4_init_X3_pushZeros
theorem dX4_init_0 : decode cX4_init 0 = .ok (.aload_n 0, 1) := by decide +kernel
theorem dX4_init_1 : decode cX4_init 1 = .ok (.invokespecial 5, 3) := by decide +kernel
theorem dX4_init_4 : decode cX4_init 4 = .ok (.aload_n 0, 1) := by decide +kernel
theorem dX4_init_5 : decode cX4_init 5 = .ok (.bipush 8, 2) := by decide +kernel
theorem dX4_init_7 : decode cX4_init 7 = .ok (.newarray .int, 2) := by decide +kernel
theorem dX4_init_9 : decode cX4_init 9 = .ok (.putfield 11, 3) := by decide +kernel
theorem dX4_init_12 : decode cX4_init 12 = .ok (.aload_n 0, 1) := by decide +kernel
theorem dX4_init_13 : decode cX4_init 13 = .ok (.bipush 64, 2) := by decide +kernel
theorem dX4_init_15 : decode cX4_init 15 = .ok (.newarray .int, 2) := by decide +kernel
theorem dX4_init_17 : decode cX4_init 17 = .ok (.putfield 15, 3) := by decide +kernel
theorem dX4_init_20 : decode cX4_init 20 = .ok (.aload_n 0, 1) := by decide +kernel
theorem dX4_init_21 : decode cX4_init 21 = .ok (.new 18, 3) := by decide +kernel
theorem dX4_init_24 : decode cX4_init 24 = .ok (.dup, 1) := by decide +kernel
theorem dX4_init_25 : decode cX4_init 25 = .ok (.sipush 256, 3) := by decide +kernel
theorem dX4_init_28 : decode cX4_init 28 = .ok (.invokespecial 20, 3) := by decide +kernel
theorem dX4_init_31 : decode cX4_init 31 = .ok (.putfield 23, 3) := by decide +kernel
theorem dX4_init_34 : decode cX4_init 34 = .ok (.aload_n 0, 1) := by decide +kernel
theorem dX4_init_35 : decode cX4_init 35 = .ok (.new 18, 3) := by decide +kernel
theorem dX4_init_38 : decode cX4_init 38 = .ok (.dup, 1) := by decide +kernel
theorem dX4_init_39 : decode cX4_init 39 = .ok (.bipush 64, 2) := by decide +kernel
theorem dX4_init_41 : decode cX4_init 41 = .ok (.invokespecial 20, 3) := by decide +kernel
theorem dX4_init_44 : decode cX4_init 44 = .ok (.putfield 27, 3) := by decide +kernel
theorem dX4_init_47 : decode cX4_init 47 = .ok (.aload_n 0, 1) := by decide +kernel
theorem dX4_init_48 : decode cX4_init 48 = .ok (.new 18, 3) := by decide +kernel
theorem dX4_init_51 : decode cX4_init 51 = .ok (.dup, 1) := by decide +kernel
theorem dX4_init_52 : decode cX4_init 52 = .ok (.bipush 32, 2) := by decide +kernel
theorem dX4_init_54 : decode cX4_init 54 = .ok (.invokespecial 20, 3) := by decide +kernel
theorem dX4_init_57 : decode cX4_init 57 = .ok (.putfield 30, 3) := by decide +kernel
theorem dX4_init_60 : decode cX4_init 60 = .ok (.aload_n 0, 1) := by decide +kernel
theorem dX4_init_61 : decode cX4_init 61 = .ok (.new 18, 3) := by decide +kernel
theorem dX4_init_64 : decode cX4_init 64 = .ok (.dup, 1) := by decide +kernel
theorem dX4_init_65 : decode cX4_init 65 = .ok (.bipush 64, 2) := by decide +kernel
theorem dX4_init_67 : decode cX4_init 67 = .ok (.invokespecial 20, 3) := by decide +kernel
theorem dX4_init_70 : decode cX4_init 70 = .ok (.putfield 33, 3) := by decide +kernel
theorem dX4_init_73 : decode cX4_init 73 = .ok (.aload_n 0, 1) := by decide +kernel
theorem dX4_init_74 : decode cX4_init 74 = .ok (.new 18, 3) := by decide +kernel
theorem dX4_init_77 : decode cX4_init 77 = .ok (.dup, 1) := by decide +kernel
theorem dX4_init_78 : decode cX4_init 78 = .ok (.bipush 32, 2) := by decide +kernel
theorem dX4_init_80 : decode cX4_init 80 = .ok (.invokespecial 20, 3) := by decide +kernel
theorem dX4_init_83 : decode cX4_init 83 = .ok (.putfield 36, 3) := by decide +kernel
theorem dX4_init_86 : decode cX4_init 86 = .ok (.aload_n 0, 1) := by decide +kernel
theorem dX4_init_87 : decode cX4_init 87 = .ok (.new 18, 3) := by decide +kernel
theorem dX4_init_90 : decode cX4_init 90 = .ok (.dup, 1) := by decide +kernel
theorem dX4_init_91 : decode cX4_init 91 = .ok (.bipush 32, 2) := by decide +kernel
theorem dX4_init_93 : decode cX4_init 93 = .ok (.invokespecial 20, 3) := by decide +kernel
theorem dX4_init_96 : decode cX4_init 96 = .ok (.putfield 39, 3) := by decide +kernel
theorem dX4_init_99 : decode cX4_init 99 = .ok (.aload_n 0, 1) := by decide +kernel
theorem dX4_init_100 : decode cX4_init 100 = .ok (.new 18, 3) := by decide +kernel
theorem dX4_init_103 : decode cX4_init 103 = .ok (.dup, 1) := by decide +kernel
theorem dX4_init_104 : decode cX4_init 104 = .ok (.bipush 32, 2) := by decide +kernel
theorem dX4_init_106 : decode cX4_init 106 = .ok (.invokespecial 20, 3) := by decide +kernel
theorem dX4_init_109 : decode cX4_init 109 = .ok (.putfield 42, 3) := by decide +kernel
theorem dX4_init_112 : decode cX4_init 112 = .ok (.aload_n 0, 1) := by decide +kernel
theorem dX4_init_113 : decode cX4_init 113 = .ok (.getfield 42, 3) := by decide +kernel
theorem dX4_init_116 : decode cX4_init 116 = .ok (.bipush 32, 2) := by decide +kernel
theorem dX4_init_118 : decode cX4_init 118 = .ok (.invokevirtual 45, 3) := by decide +kernel
theorem dX4_init_121 : decode cX4_init 121 = .ok (.return_, 1) := by decide +kernel
set_option maxRecDepth 20000 in
theorem ggX4_hashInto_X3_takeOver : GoodIn wsX4_hashInto wsX3_takeOver := goodIn_r _ [6, 7, 8, 9, 10, 5, 11, 12, 13, 14, 15, 16, 62, 63] rfl (by decide +kernel)
set_option maxRecDepth 20000 in
theorem gX4_hashInto_X3_takeOver : GoodIn wsX4_hashInto (wsV RX4 48 RX3 yX3_takeOver wsX3_takeOver) := goodIn_app (goodIn_of _ (by decide +kernel)) ggX4_hashInto_X3_takeOver
set_option maxRecDepth 20000 in
theorem ggX4_hashInto_X4_hashWork : GoodIn wsX4_hashInto wsX4_hashWork := goodIn_r _ [21, 1, 22, 23, 24, 25, 14, 15, 16, 26, 27, 28, 5, 29, 7, 12, 30, 31, 32, 33, 34, 35, 36, 37, 38, 39, 40, 20, 41, 42, 43, 44, 45, 46, 47, 48, 49, 50, 51, 52, 53, 54, 55, 56, 57, 58, 59, 60, 61, 62, 63] rfl (by decide +kernel)
set_option maxRecDepth 20000 in
theorem gX4_hashInto_X4_hashWork : GoodIn wsX4_hashInto (wsV RX4 52 RX4 yX4_hashWork wsX4_hashWork) := goodIn_app (goodIn_of _ (by decide +kernel)) ggX4_hashInto_X4_hashWork
theorem dX4_hashInto_0 : decode cX4_hashInto 0 = .ok (.aload_n 0, 1) := by decide +kernel
theorem dX4_hashInto_1 : decode cX4_hashInto 1 = .ok (.getfield 23, 3) := by decide +kernel
theorem dX4_hashInto_4 : decode cX4_hashInto 4 = .ok (.aload_n 2, 1) := by decide +kernel
theorem dX4_hashInto_5 : decode cX4_hashInto 5 = .ok (.invokevirtual 48, 3) := by decide +kernel
theorem dX4_hashInto_8 : decode cX4_hashInto 8 = .ok (.aload_n 0, 1) := by decide +kernel
theorem dX4_hashInto_9 : decode cX4_hashInto 9 = .ok (.aload_n 1, 1) := by decide +kernel
theorem dX4_hashInto_10 : decode cX4_hashInto 10 = .ok (.invokevirtual 52, 3) := by decide +kernel
theorem dX4_hashInto_13 : decode cX4_hashInto 13 = .ok (.return_, 1) := by decide +kernel
set_option maxRecDepth 20000 in
theorem ggX4_sealInto_X3_takeOver : GoodIn wsX4_sealInto wsX3_takeOver := goodIn_r _ [9, 10, 11, 12, 13, 8, 14, 15, 16, 17, 18, 19, 67, 68] rfl (by decide +kernel)
set_option maxRecDepth 20000 in
theorem gX4_sealInto_X3_takeOver : GoodIn wsX4_sealInto (wsV RX4 48 RX3 yX3_takeOver wsX3_takeOver) := goodIn_app (goodIn_of _ (by decide +kernel)) ggX4_sealInto_X3_takeOver
set_option maxRecDepth 20000 in
theorem ggX4_sealInto_X4_hashWork : GoodIn wsX4_sealInto wsX4_hashWork := goodIn_r _ [24, 2, 1, 25, 26, 27, 17, 18, 19, 28, 29, 30, 8, 31, 10, 15, 32, 33, 34, 35, 36, 37, 38, 39, 40, 41, 42, 23, 43, 44, 45, 46, 47, 48, 49, 50, 51, 52, 53, 54, 69, 70, 71, 72, 73, 74, 75, 76, 77, 67, 68] rfl (by decide +kernel)
set_option maxRecDepth 20000 in
theorem gX4_sealInto_X4_hashWork : GoodIn wsX4_sealInto (wsV RX4 52 RX4 yX4_hashWork wsX4_hashWork) := goodIn_app (goodIn_of _ (by decide +kernel)) ggX4_sealInto_X4_hashWork
set_option maxRecDepth 20000 in
theorem ggX4_sealInto_X3_pushZeros : GoodIn wsX4_sealInto wsX3_pushZeros := goodIn_r _ [35, 10, 15, 67, 68] rfl (by decide +kernel)
set_option maxRecDepth 20000 in
theorem gX4_sealInto_X3_pushZeros : GoodIn wsX4_sealInto (wsV RX4 45 RX3 yX3_pushZeros wsX3_pushZeros) := goodIn_app (goodIn_of _ (by decide +kernel)) ggX4_sealInto_X3_pushZeros
set_option maxRecDepth 20000 in
theorem ggX4_sealInto_X4_startWork : GoodIn wsX4_sealInto wsX4_startWork := goodIn_r _ [58, 2, 3, 1, 51, 52, 53, 8, 54, 10, 59, 60, 61, 62, 15, 28, 29, 30, 31, 69, 70, 71, 72, 73, 74, 75, 76, 77, 67, 68] rfl (by decide +kernel)
set_option maxRecDepth 20000 in
theorem gX4_sealInto_X4_startWork : GoodIn wsX4_sealInto (wsV RX4 59 RX4 yX4_startWork wsX4_startWork) := goodIn_app (goodIn_of _ (by decide +kernel)) ggX4_sealInto_X4_startWork
set_option maxRecDepth 20000 in
theorem ggX4_sealInto_X3_pushAll : GoodIn wsX4_sealInto wsX3_pushAll := goodIn_r _ [66, 10, 11, 12, 13, 8, 14, 15, 16, 17, 18, 19, 67, 68] rfl (by decide +kernel)
set_option maxRecDepth 20000 in
theorem gX4_sealInto_X3_pushAll : GoodIn wsX4_sealInto (wsV RX4 62 RX3 yX3_pushAll wsX3_pushAll) := goodIn_app (goodIn_of _ (by decide +kernel)) ggX4_sealInto_X3_pushAll
theorem dX4_sealInto_0 : decode cX4_sealInto 0 = .ok (.aload_n 2, 1) := by decide +kernel
theorem dX4_sealInto_1 : decode cX4_sealInto 1 = .ok (.getfield 55, 3) := by decide +kernel
theorem dX4_sealInto_4 : decode cX4_sealInto 4 = .ok (.bipush 64, 2) := by decide +kernel
theorem dX4_sealInto_6 : decode cX4_sealInto 6 = .ok (.if_icmp .le 22, 3) := by decide +kernel
theorem dX4_sealInto_9 : decode cX4_sealInto 9 = .ok (.aload_n 0, 1) := by decide +kernel
theorem dX4_sealInto_10 : decode cX4_sealInto 10 = .ok (.getfield 23, 3) := by decide +kernel
theorem dX4_sealInto_13 : decode cX4_sealInto 13 = .ok (.aload_n 2, 1) := by decide +kernel
theorem dX4_sealInto_14 : decode cX4_sealInto 14 = .ok (.invokevirtual 48, 3) := by decide +kernel
theorem dX4_sealInto_17 : decode cX4_sealInto 17 = .ok (.aload_n 0, 1) := by decide +kernel
theorem dX4_sealInto_18 : decode cX4_sealInto 18 = .ok (.aload_n 0, 1) := by decide +kernel
theorem dX4_sealInto_19 : decode cX4_sealInto 19 = .ok (.getfield 27, 3) := by decide +kernel
theorem dX4_sealInto_22 : decode cX4_sealInto 22 = .ok (.invokevirtual 52, 3) := by decide +kernel
theorem dX4_sealInto_25 : decode cX4_sealInto 25 = .ok (.goto 11, 3) := by decide +kernel
theorem dX4_sealInto_28 : decode cX4_sealInto 28 = .ok (.aload_n 0, 1) := by decide +kernel
theorem dX4_sealInto_29 : decode cX4_sealInto 29 = .ok (.getfield 27, 3) := by decide +kernel
theorem dX4_sealInto_32 : decode cX4_sealInto 32 = .ok (.aload_n 2, 1) := by decide +kernel
theorem dX4_sealInto_33 : decode cX4_sealInto 33 = .ok (.invokevirtual 48, 3) := by decide +kernel
theorem dX4_sealInto_36 : decode cX4_sealInto 36 = .ok (.aload_n 0, 1) := by decide +kernel
theorem dX4_sealInto_37 : decode cX4_sealInto 37 = .ok (.getfield 27, 3) := by decide +kernel
theorem dX4_sealInto_40 : decode cX4_sealInto 40 = .ok (.bipush 64, 2) := by decide +kernel
theorem dX4_sealInto_42 : decode cX4_sealInto 42 = .ok (.aload_n 0, 1) := by decide +kernel
theorem dX4_sealInto_43 : decode cX4_sealInto 43 = .ok (.getfield 27, 3) := by decide +kernel
theorem dX4_sealInto_46 : decode cX4_sealInto 46 = .ok (.getfield 55, 3) := by decide +kernel
theorem dX4_sealInto_49 : decode cX4_sealInto 49 = .ok (.isub, 1) := by decide +kernel
theorem dX4_sealInto_50 : decode cX4_sealInto 50 = .ok (.invokevirtual 45, 3) := by decide +kernel
theorem dX4_sealInto_53 : decode cX4_sealInto 53 = .ok (.aload_n 0, 1) := by decide +kernel
theorem dX4_sealInto_54 : decode cX4_sealInto 54 = .ok (.bipush 54, 2) := by decide +kernel
theorem dX4_sealInto_56 : decode cX4_sealInto 56 = .ok (.invokevirtual 59, 3) := by decide +kernel
theorem dX4_sealInto_59 : decode cX4_sealInto 59 = .ok (.aload_n 0, 1) := by decide +kernel
theorem dX4_sealInto_60 : decode cX4_sealInto 60 = .ok (.getfield 23, 3) := by decide +kernel
theorem dX4_sealInto_63 : decode cX4_sealInto 63 = .ok (.aload_n 3, 1) := by decide +kernel
theorem dX4_sealInto_64 : decode cX4_sealInto 64 = .ok (.invokevirtual 62, 3) := by decide +kernel
theorem dX4_sealInto_67 : decode cX4_sealInto 67 = .ok (.aload_n 0, 1) := by decide +kernel
theorem dX4_sealInto_68 : decode cX4_sealInto 68 = .ok (.aload_n 0, 1) := by decide +kernel
theorem dX4_sealInto_69 : decode cX4_sealInto 69 = .ok (.getfield 30, 3) := by decide +kernel
theorem dX4_sealInto_72 : decode cX4_sealInto 72 = .ok (.invokevirtual 52, 3) := by decide +kernel
theorem dX4_sealInto_75 : decode cX4_sealInto 75 = .ok (.aload_n 0, 1) := by decide +kernel
theorem dX4_sealInto_76 : decode cX4_sealInto 76 = .ok (.bipush 92, 2) := by decide +kernel
theorem dX4_sealInto_78 : decode cX4_sealInto 78 = .ok (.invokevirtual 59, 3) := by decide +kernel
theorem dX4_sealInto_81 : decode cX4_sealInto 81 = .ok (.aload_n 0, 1) := by decide +kernel
theorem dX4_sealInto_82 : decode cX4_sealInto 82 = .ok (.getfield 23, 3) := by decide +kernel
theorem dX4_sealInto_85 : decode cX4_sealInto 85 = .ok (.aload_n 0, 1) := by decide +kernel
theorem dX4_sealInto_86 : decode cX4_sealInto 86 = .ok (.getfield 30, 3) := by decide +kernel
theorem dX4_sealInto_89 : decode cX4_sealInto 89 = .ok (.invokevirtual 62, 3) := by decide +kernel
theorem dX4_sealInto_92 : decode cX4_sealInto 92 = .ok (.aload_n 0, 1) := by decide +kernel
theorem dX4_sealInto_93 : decode cX4_sealInto 93 = .ok (.aload_n 1, 1) := by decide +kernel
theorem dX4_sealInto_94 : decode cX4_sealInto 94 = .ok (.invokevirtual 52, 3) := by decide +kernel
theorem dX4_sealInto_97 : decode cX4_sealInto 97 = .ok (.return_, 1) := by decide +kernel
set_option maxRecDepth 20000 in
theorem ggX4_goOnOwn_X4_sealInto : GoodIn wsX4_goOnOwn wsX4_sealInto := goodIn_r _ [6, 7, 8, 9, 10, 11, 12, 13, 14, 15, 16, 17, 18, 19, 20, 21, 22, 23, 24, 25, 26, 27, 28, 5, 29, 30, 31, 32, 33, 34, 35, 36, 37, 38, 39, 40, 41, 42, 43, 44, 45, 46, 47, 48, 49, 50, 51, 52, 53, 54, 55, 56, 57, 58, 59, 60, 61, 62, 63, 64, 65, 66, 67, 68, 69, 70, 71, 74, 75, 76, 77, 78, 79, 80, 81, 82, 83, 84] rfl (by decide +kernel)
set_option maxRecDepth 20000 in
theorem gX4_goOnOwn_X4_sealInto : GoodIn wsX4_goOnOwn (wsV RX4 70 RX4 yX4_sealInto wsX4_sealInto) := goodIn_app (goodIn_of _ (by decide +kernel)) ggX4_goOnOwn_X4_sealInto
theorem dX4_goOnOwn_0 : decode cX4_goOnOwn 0 = .ok (.aload_n 0, 1) := by decide +kernel
theorem dX4_goOnOwn_1 : decode cX4_goOnOwn 1 = .ok (.aload_n 1, 1) := by decide +kernel
theorem dX4_goOnOwn_2 : decode cX4_goOnOwn 2 = .ok (.aload_n 1, 1) := by decide +kernel
theorem dX4_goOnOwn_3 : decode cX4_goOnOwn 3 = .ok (.aload_n 2, 1) := by decide +kernel
theorem dX4_goOnOwn_4 : decode cX4_goOnOwn 4 = .ok (.getfield 65, 3) := by decide +kernel
theorem dX4_goOnOwn_7 : decode cX4_goOnOwn 7 = .ok (.invokevirtual 70, 3) := by decide +kernel
theorem dX4_goOnOwn_10 : decode cX4_goOnOwn 10 = .ok (.return_, 1) := by decide +kernel
set_option maxRecDepth 20000 in
theorem ggX4_goOnOthers_X4_sealInto : GoodIn wsX4_goOnOthers wsX4_sealInto := goodIn_r _ [10, 11, 12, 13, 14, 15, 16, 17, 18, 19, 20, 21, 22, 23, 24, 25, 26, 27, 28, 29, 30, 31, 32, 9, 33, 34, 35, 36, 37, 38, 39, 40, 41, 42, 43, 44, 45, 46, 47, 48, 49, 50, 51, 52, 53, 54, 55, 56, 57, 58, 59, 60, 61, 62, 63, 64, 65, 66, 67, 68, 69, 70, 71, 72, 73, 74, 75, 87, 88, 76, 77, 78, 79, 80, 81, 82, 83, 84] rfl (by decide +kernel)
set_option maxRecDepth 20000 in
theorem gX4_goOnOthers_X4_sealInto : GoodIn wsX4_goOnOthers (wsV RX4 70 RX4 yX4_sealInto wsX4_sealInto) := goodIn_app (goodIn_of _ (by decide +kernel)) ggX4_goOnOthers_X4_sealInto
set_option maxRecDepth 20000 in
theorem ggX4_goOnOthers_X3_takeOver : GoodIn wsX4_goOnOthers wsX3_takeOver := goodIn_r _ [19, 20, 21, 22, 23, 18, 24, 25, 26, 27, 28, 29, 87, 88] rfl (by decide +kernel)
set_option maxRecDepth 20000 in
theorem gX4_goOnOthers_X3_takeOver : GoodIn wsX4_goOnOthers (wsV RX4 48 RX3 yX3_takeOver wsX3_takeOver) := goodIn_app (goodIn_of _ (by decide +kernel)) ggX4_goOnOthers_X3_takeOver
set_option maxRecDepth 20000 in
theorem ggX4_goOnOthers_X3_pushAll : GoodIn wsX4_goOnOthers wsX3_pushAll := goodIn_r _ [75, 20, 21, 22, 23, 18, 24, 25, 26, 27, 28, 29, 87, 88] rfl (by decide +kernel)
set_option maxRecDepth 20000 in
theorem gX4_goOnOthers_X3_pushAll : GoodIn wsX4_goOnOthers (wsV RX4 62 RX3 yX3_pushAll wsX3_pushAll) := goodIn_app (goodIn_of _ (by decide +kernel)) ggX4_goOnOthers_X3_pushAll
theorem dX4_goOnOthers_0 : decode cX4_goOnOthers 0 = .ok (.aload_n 0, 1) := by decide +kernel
theorem dX4_goOnOthers_1 : decode cX4_goOnOthers 1 = .ok (.aload_n 0, 1) := by decide +kernel
theorem dX4_goOnOthers_2 : decode cX4_goOnOthers 2 = .ok (.getfield 39, 3) := by decide +kernel
theorem dX4_goOnOthers_5 : decode cX4_goOnOthers 5 = .ok (.aload_n 1, 1) := by decide +kernel
theorem dX4_goOnOthers_6 : decode cX4_goOnOthers 6 = .ok (.aload_n 2, 1) := by decide +kernel
theorem dX4_goOnOthers_7 : decode cX4_goOnOthers 7 = .ok (.getfield 74, 3) := by decide +kernel
theorem dX4_goOnOthers_10 : decode cX4_goOnOthers 10 = .ok (.invokevirtual 70, 3) := by decide +kernel
theorem dX4_goOnOthers_13 : decode cX4_goOnOthers 13 = .ok (.aload_n 0, 1) := by decide +kernel
theorem dX4_goOnOthers_14 : decode cX4_goOnOthers 14 = .ok (.aload_n 0, 1) := by decide +kernel
theorem dX4_goOnOthers_15 : decode cX4_goOnOthers 15 = .ok (.getfield 36, 3) := by decide +kernel
theorem dX4_goOnOthers_18 : decode cX4_goOnOthers 18 = .ok (.aload_n 1, 1) := by decide +kernel
theorem dX4_goOnOthers_19 : decode cX4_goOnOthers 19 = .ok (.aload_n 2, 1) := by decide +kernel
theorem dX4_goOnOthers_20 : decode cX4_goOnOthers 20 = .ok (.getfield 65, 3) := by decide +kernel
theorem dX4_goOnOthers_23 : decode cX4_goOnOthers 23 = .ok (.invokevirtual 70, 3) := by decide +kernel
theorem dX4_goOnOthers_26 : decode cX4_goOnOthers 26 = .ok (.aload_n 0, 1) := by decide +kernel
theorem dX4_goOnOthers_27 : decode cX4_goOnOthers 27 = .ok (.getfield 33, 3) := by decide +kernel
theorem dX4_goOnOthers_30 : decode cX4_goOnOthers 30 = .ok (.aload_n 0, 1) := by decide +kernel
theorem dX4_goOnOthers_31 : decode cX4_goOnOthers 31 = .ok (.getfield 39, 3) := by decide +kernel
theorem dX4_goOnOthers_34 : decode cX4_goOnOthers 34 = .ok (.invokevirtual 48, 3) := by decide +kernel
theorem dX4_goOnOthers_37 : decode cX4_goOnOthers 37 = .ok (.aload_n 0, 1) := by decide +kernel
theorem dX4_goOnOthers_38 : decode cX4_goOnOthers 38 = .ok (.getfield 33, 3) := by decide +kernel
theorem dX4_goOnOthers_41 : decode cX4_goOnOthers 41 = .ok (.aload_n 0, 1) := by decide +kernel
theorem dX4_goOnOthers_42 : decode cX4_goOnOthers 42 = .ok (.getfield 36, 3) := by decide +kernel
theorem dX4_goOnOthers_45 : decode cX4_goOnOthers 45 = .ok (.invokevirtual 62, 3) := by decide +kernel
theorem dX4_goOnOthers_48 : decode cX4_goOnOthers 48 = .ok (.aload_n 0, 1) := by decide +kernel
theorem dX4_goOnOthers_49 : decode cX4_goOnOthers 49 = .ok (.aload_n 1, 1) := by decide +kernel
theorem dX4_goOnOthers_50 : decode cX4_goOnOthers 50 = .ok (.aload_n 1, 1) := by decide +kernel
theorem dX4_goOnOthers_51 : decode cX4_goOnOthers 51 = .ok (.aload_n 0, 1) := by decide +kernel
theorem dX4_goOnOthers_52 : decode cX4_goOnOthers 52 = .ok (.getfield 33, 3) := by decide +kernel
theorem dX4_goOnOthers_55 : decode cX4_goOnOthers 55 = .ok (.invokevirtual 70, 3) := by decide +kernel
theorem dX4_goOnOthers_58 : decode cX4_goOnOthers 58 = .ok (.return_, 1) := by decide +kernel
set_option maxRecDepth 20000 in
theorem ggX4_turnKey_X4_sealInto : GoodIn wsX4_turnKey wsX4_sealInto := goodIn_r _ [6, 7, 8, 9, 10, 11, 12, 13, 14, 15, 16, 17, 18, 19, 20, 21, 22, 23, 24, 25, 26, 27, 28, 5, 29, 30, 31, 32, 33, 34, 35, 36, 37, 38, 39, 40, 41, 42, 43, 44, 45, 46, 47, 48, 49, 50, 51, 52, 53, 54, 55, 56, 57, 58, 59, 60, 61, 62, 63, 64, 65, 66, 67, 68, 69, 70, 71, 89, 90, 80, 81, 82, 83, 84, 85, 86, 87, 88] rfl (by decide +kernel)
set_option maxRecDepth 20000 in
theorem gX4_turnKey_X4_sealInto : GoodIn wsX4_turnKey (wsV RX4 70 RX4 yX4_sealInto wsX4_sealInto) := goodIn_app (goodIn_of _ (by decide +kernel)) ggX4_turnKey_X4_sealInto
set_option maxRecDepth 20000 in
theorem ggX4_turnKey_X3_takeOver : GoodIn wsX4_turnKey wsX3_takeOver := goodIn_r _ [15, 16, 17, 18, 19, 14, 20, 21, 22, 23, 24, 25, 89, 90] rfl (by decide +kernel)
set_option maxRecDepth 20000 in
theorem gX4_turnKey_X3_takeOver : GoodIn wsX4_turnKey (wsV RX4 48 RX3 yX3_takeOver wsX3_takeOver) := goodIn_app (goodIn_of _ (by decide +kernel)) ggX4_turnKey_X3_takeOver
set_option maxRecDepth 20000 in
theorem ggX4_turnKey_X3_byteAt : GoodIn wsX4_turnKey wsX3_byteAt := goodIn_r _ [67, 16, 21, 89, 90] rfl (by decide +kernel)
set_option maxRecDepth 20000 in
theorem gX4_turnKey_X3_byteAt : GoodIn wsX4_turnKey (wsV RX4 77 RX3 yX3_byteAt wsX3_byteAt) := goodIn_app (goodIn_of _ (by decide +kernel)) ggX4_turnKey_X3_byteAt
set_option maxRecDepth 20000 in
theorem ggX4_turnKey_X3_flip : GoodIn wsX4_turnKey wsX3_flip := goodIn_r _ [75, 21, 76, 77, 78, 14, 79, 16, 89, 90] rfl (by decide +kernel)
set_option maxRecDepth 20000 in
theorem gX4_turnKey_X3_flip : GoodIn wsX4_turnKey (wsV RX4 81 RX3 yX3_flip wsX3_flip) := goodIn_app (goodIn_of _ (by decide +kernel)) ggX4_turnKey_X3_flip
theorem dX4_turnKey_0 : decode cX4_turnKey 0 = .ok (.aload_n 0, 1) := by decide +kernel
theorem dX4_turnKey_1 : decode cX4_turnKey 1 = .ok (.aload_n 0, 1) := by decide +kernel
theorem dX4_turnKey_2 : decode cX4_turnKey 2 = .ok (.getfield 36, 3) := by decide +kernel
theorem dX4_turnKey_5 : decode cX4_turnKey 5 = .ok (.aload_n 3, 1) := by decide +kernel
theorem dX4_turnKey_6 : decode cX4_turnKey 6 = .ok (.aload 4, 2) := by decide +kernel
theorem dX4_turnKey_8 : decode cX4_turnKey 8 = .ok (.invokevirtual 70, 3) := by decide +kernel
theorem dX4_turnKey_11 : decode cX4_turnKey 11 = .ok (.aload_n 1, 1) := by decide +kernel
theorem dX4_turnKey_12 : decode cX4_turnKey 12 = .ok (.aload_n 2, 1) := by decide +kernel
theorem dX4_turnKey_13 : decode cX4_turnKey 13 = .ok (.invokevirtual 48, 3) := by decide +kernel
theorem dX4_turnKey_16 : decode cX4_turnKey 16 = .ok (.iconst 0, 1) := by decide +kernel
theorem dX4_turnKey_17 : decode cX4_turnKey 17 = .ok (.istore 5, 2) := by decide +kernel
theorem dX4_turnKey_19 : decode cX4_turnKey 19 = .ok (.iload 5, 2) := by decide +kernel
theorem dX4_turnKey_21 : decode cX4_turnKey 21 = .ok (.bipush 32, 2) := by decide +kernel
theorem dX4_turnKey_23 : decode cX4_turnKey 23 = .ok (.if_icmp .ge 25, 3) := by decide +kernel
theorem dX4_turnKey_26 : decode cX4_turnKey 26 = .ok (.aload_n 1, 1) := by decide +kernel
theorem dX4_turnKey_27 : decode cX4_turnKey 27 = .ok (.iload 5, 2) := by decide +kernel
theorem dX4_turnKey_29 : decode cX4_turnKey 29 = .ok (.aload_n 0, 1) := by decide +kernel
theorem dX4_turnKey_30 : decode cX4_turnKey 30 = .ok (.getfield 36, 3) := by decide +kernel
theorem dX4_turnKey_33 : decode cX4_turnKey 33 = .ok (.iload 5, 2) := by decide +kernel
theorem dX4_turnKey_35 : decode cX4_turnKey 35 = .ok (.invokevirtual 77, 3) := by decide +kernel
theorem dX4_turnKey_38 : decode cX4_turnKey 38 = .ok (.invokevirtual 81, 3) := by decide +kernel
theorem dX4_turnKey_41 : decode cX4_turnKey 41 = .ok (.pop, 1) := by decide +kernel
theorem dX4_turnKey_42 : decode cX4_turnKey 42 = .ok (.iinc 5 1, 3) := by decide +kernel
theorem dX4_turnKey_45 : decode cX4_turnKey 45 = .ok (.goto (-26), 3) := by decide +kernel
theorem dX4_turnKey_48 : decode cX4_turnKey 48 = .ok (.return_, 1) := by decide +kernel
set_option maxRecDepth 20000 in
theorem ggX4_bindSign_X3_takeOver : GoodIn wsX4_bindSign wsX3_takeOver := goodIn_r _ [7, 8, 9, 10, 11, 6, 12, 13, 14, 15, 16, 17, 82, 83] rfl (by decide +kernel)
set_option maxRecDepth 20000 in
theorem gX4_bindSign_X3_takeOver : GoodIn wsX4_bindSign (wsV RX4 48 RX3 yX3_takeOver wsX3_takeOver) := goodIn_app (goodIn_of _ (by decide +kernel)) ggX4_bindSign_X3_takeOver
set_option maxRecDepth 20000 in
theorem ggX4_bindSign_X3_pushAll : GoodIn wsX4_bindSign wsX3_pushAll := goodIn_r _ [21, 8, 9, 10, 11, 6, 12, 13, 14, 15, 16, 17, 82, 83] rfl (by decide +kernel)
set_option maxRecDepth 20000 in
theorem gX4_bindSign_X3_pushAll : GoodIn wsX4_bindSign (wsV RX4 62 RX3 yX3_pushAll wsX3_pushAll) := goodIn_app (goodIn_of _ (by decide +kernel)) ggX4_bindSign_X3_pushAll
set_option maxRecDepth 20000 in
theorem ggX4_bindSign_X4_sealInto : GoodIn wsX4_bindSign wsX4_sealInto := goodIn_r _ [26, 27, 28, 29, 30, 3, 4, 5, 6, 7, 8, 9, 10, 11, 12, 13, 14, 15, 16, 17, 31, 32, 33, 25, 34, 35, 36, 37, 38, 39, 40, 41, 42, 43, 44, 45, 46, 47, 48, 49, 50, 51, 52, 53, 54, 55, 56, 57, 58, 59, 60, 61, 62, 63, 64, 65, 66, 67, 68, 69, 70, 71, 72, 18, 19, 20, 21, 82, 83, 73, 74, 75, 76, 77, 78, 79, 80, 81] rfl (by decide +kernel)
set_option maxRecDepth 20000 in
theorem gX4_bindSign_X4_sealInto : GoodIn wsX4_bindSign (wsV RX4 70 RX4 yX4_sealInto wsX4_sealInto) := goodIn_app (goodIn_of _ (by decide +kernel)) ggX4_bindSign_X4_sealInto
theorem dX4_bindSign_0 : decode cX4_bindSign 0 = .ok (.aload_n 0, 1) := by decide +kernel
theorem dX4_bindSign_1 : decode cX4_bindSign 1 = .ok (.getfield 33, 3) := by decide +kernel
theorem dX4_bindSign_4 : decode cX4_bindSign 4 = .ok (.aload_n 2, 1) := by decide +kernel
theorem dX4_bindSign_5 : decode cX4_bindSign 5 = .ok (.invokevirtual 48, 3) := by decide +kernel
theorem dX4_bindSign_8 : decode cX4_bindSign 8 = .ok (.aload_n 0, 1) := by decide +kernel
theorem dX4_bindSign_9 : decode cX4_bindSign 9 = .ok (.getfield 33, 3) := by decide +kernel
theorem dX4_bindSign_12 : decode cX4_bindSign 12 = .ok (.aload_n 1, 1) := by decide +kernel
theorem dX4_bindSign_13 : decode cX4_bindSign 13 = .ok (.invokevirtual 62, 3) := by decide +kernel
theorem dX4_bindSign_16 : decode cX4_bindSign 16 = .ok (.aload_n 0, 1) := by decide +kernel
theorem dX4_bindSign_17 : decode cX4_bindSign 17 = .ok (.aload_n 1, 1) := by decide +kernel
theorem dX4_bindSign_18 : decode cX4_bindSign 18 = .ok (.aload_n 0, 1) := by decide +kernel
theorem dX4_bindSign_19 : decode cX4_bindSign 19 = .ok (.getfield 42, 3) := by decide +kernel
theorem dX4_bindSign_22 : decode cX4_bindSign 22 = .ok (.aload_n 0, 1) := by decide +kernel
theorem dX4_bindSign_23 : decode cX4_bindSign 23 = .ok (.getfield 33, 3) := by decide +kernel
theorem dX4_bindSign_26 : decode cX4_bindSign 26 = .ok (.invokevirtual 70, 3) := by decide +kernel
theorem dX4_bindSign_29 : decode cX4_bindSign 29 = .ok (.return_, 1) := by decide +kernel
set_option maxRecDepth 20000 in
theorem ggX4_startWork_X3_makeEmpty : GoodIn wsX4_startWork wsX3_makeEmpty := goodIn_r _ [8, 9, 28, 29] rfl (by decide +kernel)
set_option maxRecDepth 20000 in
theorem gX4_startWork_X3_makeEmpty : GoodIn wsX4_startWork (wsV RX4 85 RX3 yX3_makeEmpty wsX3_makeEmpty) := goodIn_app (goodIn_of _ (by decide +kernel)) ggX4_startWork_X3_makeEmpty
set_option maxRecDepth 20000 in
theorem ggX4_startWork_X3_byteAt : GoodIn wsX4_startWork wsX3_byteAt := goodIn_r _ [13, 9, 14, 28, 29] rfl (by decide +kernel)
set_option maxRecDepth 20000 in
theorem gX4_startWork_X3_byteAt : GoodIn wsX4_startWork (wsV RX4 77 RX3 yX3_byteAt wsX3_byteAt) := goodIn_app (goodIn_of _ (by decide +kernel)) ggX4_startWork_X3_byteAt
set_option maxRecDepth 20000 in
theorem ggX4_startWork_X3_push : GoodIn wsX4_startWork wsX3_push := goodIn_r _ [18, 9, 14, 28, 29] rfl (by decide +kernel)
set_option maxRecDepth 20000 in
theorem gX4_startWork_X3_push : GoodIn wsX4_startWork (wsV RX4 88 RX3 yX3_push wsX3_push) := goodIn_app (goodIn_of _ (by decide +kernel)) ggX4_startWork_X3_push
theorem dX4_startWork_0 : decode cX4_startWork 0 = .ok (.aload_n 0, 1) := by decide +kernel
theorem dX4_startWork_1 : decode cX4_startWork 1 = .ok (.getfield 23, 3) := by decide +kernel
theorem dX4_startWork_4 : decode cX4_startWork 4 = .ok (.invokevirtual 85, 3) := by decide +kernel
theorem dX4_startWork_7 : decode cX4_startWork 7 = .ok (.iconst 0, 1) := by decide +kernel
theorem dX4_startWork_8 : decode cX4_startWork 8 = .ok (.istore_n 2, 1) := by decide +kernel
theorem dX4_startWork_9 : decode cX4_startWork 9 = .ok (.iload_n 2, 1) := by decide +kernel
theorem dX4_startWork_10 : decode cX4_startWork 10 = .ok (.aload_n 0, 1) := by decide +kernel
theorem dX4_startWork_11 : decode cX4_startWork 11 = .ok (.getfield 27, 3) := by decide +kernel
theorem dX4_startWork_14 : decode cX4_startWork 14 = .ok (.getfield 55, 3) := by decide +kernel
theorem dX4_startWork_17 : decode cX4_startWork 17 = .ok (.if_icmp .ge 26, 3) := by decide +kernel
theorem dX4_startWork_20 : decode cX4_startWork 20 = .ok (.aload_n 0, 1) := by decide +kernel
theorem dX4_startWork_21 : decode cX4_startWork 21 = .ok (.getfield 23, 3) := by decide +kernel
theorem dX4_startWork_24 : decode cX4_startWork 24 = .ok (.aload_n 0, 1) := by decide +kernel
theorem dX4_startWork_25 : decode cX4_startWork 25 = .ok (.getfield 27, 3) := by decide +kernel
theorem dX4_startWork_28 : decode cX4_startWork 28 = .ok (.iload_n 2, 1) := by decide +kernel
theorem dX4_startWork_29 : decode cX4_startWork 29 = .ok (.invokevirtual 77, 3) := by decide +kernel
theorem dX4_startWork_32 : decode cX4_startWork 32 = .ok (.iload_n 1, 1) := by decide +kernel
theorem dX4_startWork_33 : decode cX4_startWork 33 = .ok (.ixor, 1) := by decide +kernel
theorem dX4_startWork_34 : decode cX4_startWork 34 = .ok (.invokevirtual 88, 3) := by decide +kernel
theorem dX4_startWork_37 : decode cX4_startWork 37 = .ok (.iinc 2 1, 3) := by decide +kernel
theorem dX4_startWork_40 : decode cX4_startWork 40 = .ok (.goto (-31), 3) := by decide +kernel
theorem dX4_startWork_43 : decode cX4_startWork 43 = .ok (.return_, 1) := by decide +kernel
set_option maxRecDepth 20000 in
theorem ggX4_hashWork_X3_push : GoodIn wsX4_hashWork wsX3_push := goodIn_r _ [13, 14, 15, 49, 50] rfl (by decide +kernel)
set_option maxRecDepth 20000 in
theorem gX4_hashWork_X3_push : GoodIn wsX4_hashWork (wsV RX4 88 RX3 yX3_push wsX3_push) := goodIn_app (goodIn_of _ (by decide +kernel)) ggX4_hashWork_X3_push
set_option maxRecDepth 20000 in
theorem ggX4_hashWork_X3_pushZeros : GoodIn wsX4_hashWork wsX3_pushZeros := goodIn_r _ [19, 14, 15, 49, 50] rfl (by decide +kernel)
set_option maxRecDepth 20000 in
theorem gX4_hashWork_X3_pushZeros : GoodIn wsX4_hashWork (wsV RX4 45 RX3 yX3_pushZeros wsX3_pushZeros) := goodIn_app (goodIn_of _ (by decide +kernel)) ggX4_hashWork_X3_pushZeros
set_option maxRecDepth 20000 in
theorem ggX4_hashWork_X3_pushWord : GoodIn wsX4_hashWork wsX3_pushWord := goodIn_r _ [23, 14, 15, 49, 50] rfl (by decide +kernel)
set_option maxRecDepth 20000 in
theorem gX4_hashWork_X3_pushWord : GoodIn wsX4_hashWork (wsV RX4 91 RX3 yX3_pushWord wsX3_pushWord) := goodIn_app (goodIn_of _ (by decide +kernel)) ggX4_hashWork_X3_pushWord
set_option maxRecDepth 20000 in
theorem ggX4_hashWork_X4_spreadWords : GoodIn wsX4_hashWork wsX4_spreadWords := goodIn_r _ [28, 1, 29, 30, 40, 41, 42, 43, 44, 45, 46, 47, 48, 49, 50] rfl (by decide +kernel)
set_option maxRecDepth 20000 in
theorem gX4_hashWork_X4_spreadWords : GoodIn wsX4_hashWork (wsV RX4 103 RX4 yX4_spreadWords wsX4_spreadWords) := goodIn_app (goodIn_of _ (by decide +kernel)) ggX4_hashWork_X4_spreadWords
set_option maxRecDepth 20000 in
theorem ggX4_hashWork_X4_mixWords : GoodIn wsX4_hashWork wsX4_mixWords := goodIn_r _ [34, 4, 35, 30, 40, 41, 42, 43, 44, 45, 46, 47, 48] rfl (by decide +kernel)
set_option maxRecDepth 20000 in
theorem gX4_hashWork_X4_mixWords : GoodIn wsX4_hashWork (wsV RX4 106 RX4 yX4_mixWords wsX4_mixWords) := goodIn_app (goodIn_of _ (by decide +kernel)) ggX4_hashWork_X4_mixWords
set_option maxRecDepth 20000 in
theorem ggX4_hashWork_X3_makeEmpty : GoodIn wsX4_hashWork wsX3_makeEmpty := goodIn_r _ [39, 14, 49, 50] rfl (by decide +kernel)
set_option maxRecDepth 20000 in
theorem gX4_hashWork_X3_makeEmpty : GoodIn wsX4_hashWork (wsV RX4 85 RX3 yX3_makeEmpty wsX3_makeEmpty) := goodIn_app (goodIn_of _ (by decide +kernel)) ggX4_hashWork_X3_makeEmpty
theorem dX4_hashWork_0 : decode cX4_hashWork 0 = .ok (.bipush 8, 2) := by decide +kernel
theorem dX4_hashWork_2 : decode cX4_hashWork 2 = .ok (.aload_n 0, 1) := by decide +kernel
theorem dX4_hashWork_3 : decode cX4_hashWork 3 = .ok (.getfield 23, 3) := by decide +kernel
theorem dX4_hashWork_6 : decode cX4_hashWork 6 = .ok (.getfield 55, 3) := by decide +kernel
theorem dX4_hashWork_9 : decode cX4_hashWork 9 = .ok (.imul, 1) := by decide +kernel
theorem dX4_hashWork_10 : decode cX4_hashWork 10 = .ok (.istore_n 2, 1) := by decide +kernel
theorem dX4_hashWork_11 : decode cX4_hashWork 11 = .ok (.aload_n 0, 1) := by decide +kernel
theorem dX4_hashWork_12 : decode cX4_hashWork 12 = .ok (.getfield 23, 3) := by decide +kernel
theorem dX4_hashWork_15 : decode cX4_hashWork 15 = .ok (.sipush 128, 3) := by decide +kernel
theorem dX4_hashWork_18 : decode cX4_hashWork 18 = .ok (.invokevirtual 88, 3) := by decide +kernel
theorem dX4_hashWork_21 : decode cX4_hashWork 21 = .ok (.aload_n 0, 1) := by decide +kernel
theorem dX4_hashWork_22 : decode cX4_hashWork 22 = .ok (.getfield 23, 3) := by decide +kernel
theorem dX4_hashWork_25 : decode cX4_hashWork 25 = .ok (.bipush 120, 2) := by decide +kernel
theorem dX4_hashWork_27 : decode cX4_hashWork 27 = .ok (.aload_n 0, 1) := by decide +kernel
theorem dX4_hashWork_28 : decode cX4_hashWork 28 = .ok (.getfield 23, 3) := by decide +kernel
theorem dX4_hashWork_31 : decode cX4_hashWork 31 = .ok (.getfield 55, 3) := by decide +kernel
theorem dX4_hashWork_34 : decode cX4_hashWork 34 = .ok (.bipush 64, 2) := by decide +kernel
theorem dX4_hashWork_36 : decode cX4_hashWork 36 = .ok (.irem, 1) := by decide +kernel
theorem dX4_hashWork_37 : decode cX4_hashWork 37 = .ok (.isub, 1) := by decide +kernel
theorem dX4_hashWork_38 : decode cX4_hashWork 38 = .ok (.bipush 64, 2) := by decide +kernel
theorem dX4_hashWork_40 : decode cX4_hashWork 40 = .ok (.irem, 1) := by decide +kernel
theorem dX4_hashWork_41 : decode cX4_hashWork 41 = .ok (.invokevirtual 45, 3) := by decide +kernel
theorem dX4_hashWork_44 : decode cX4_hashWork 44 = .ok (.aload_n 0, 1) := by decide +kernel
theorem dX4_hashWork_45 : decode cX4_hashWork 45 = .ok (.getfield 23, 3) := by decide +kernel
theorem dX4_hashWork_48 : decode cX4_hashWork 48 = .ok (.iconst 0, 1) := by decide +kernel
theorem dX4_hashWork_49 : decode cX4_hashWork 49 = .ok (.invokevirtual 91, 3) := by decide +kernel
theorem dX4_hashWork_52 : decode cX4_hashWork 52 = .ok (.aload_n 0, 1) := by decide +kernel
theorem dX4_hashWork_53 : decode cX4_hashWork 53 = .ok (.getfield 23, 3) := by decide +kernel
theorem dX4_hashWork_56 : decode cX4_hashWork 56 = .ok (.iload_n 2, 1) := by decide +kernel
theorem dX4_hashWork_57 : decode cX4_hashWork 57 = .ok (.invokevirtual 91, 3) := by decide +kernel
theorem dX4_hashWork_60 : decode cX4_hashWork 60 = .ok (.getstatic 94, 3) := by decide +kernel
theorem dX4_hashWork_63 : decode cX4_hashWork 63 = .ok (.iconst 0, 1) := by decide +kernel
theorem dX4_hashWork_64 : decode cX4_hashWork 64 = .ok (.aload_n 0, 1) := by decide +kernel
theorem dX4_hashWork_65 : decode cX4_hashWork 65 = .ok (.getfield 11, 3) := by decide +kernel
theorem dX4_hashWork_68 : decode cX4_hashWork 68 = .ok (.iconst 0, 1) := by decide +kernel
theorem dX4_hashWork_69 : decode cX4_hashWork 69 = .ok (.bipush 8, 2) := by decide +kernel
theorem dX4_hashWork_71 : decode cX4_hashWork 71 = .ok (.invokestatic 97, 3) := by decide +kernel
theorem dX4_hashWork_74 : decode cX4_hashWork 74 = .ok (.iconst 0, 1) := by decide +kernel
theorem dX4_hashWork_75 : decode cX4_hashWork 75 = .ok (.istore_n 3, 1) := by decide +kernel
theorem dX4_hashWork_76 : decode cX4_hashWork 76 = .ok (.iload_n 3, 1) := by decide +kernel
theorem dX4_hashWork_77 : decode cX4_hashWork 77 = .ok (.bipush 64, 2) := by decide +kernel
theorem dX4_hashWork_79 : decode cX4_hashWork 79 = .ok (.iadd, 1) := by decide +kernel
theorem dX4_hashWork_80 : decode cX4_hashWork 80 = .ok (.aload_n 0, 1) := by decide +kernel
theorem dX4_hashWork_81 : decode cX4_hashWork 81 = .ok (.getfield 23, 3) := by decide +kernel
theorem dX4_hashWork_84 : decode cX4_hashWork 84 = .ok (.getfield 55, 3) := by decide +kernel
theorem dX4_hashWork_87 : decode cX4_hashWork 87 = .ok (.if_icmp .gt 18, 3) := by decide +kernel
theorem dX4_hashWork_90 : decode cX4_hashWork 90 = .ok (.aload_n 0, 1) := by decide +kernel
theorem dX4_hashWork_91 : decode cX4_hashWork 91 = .ok (.iload_n 3, 1) := by decide +kernel
theorem dX4_hashWork_92 : decode cX4_hashWork 92 = .ok (.invokevirtual 103, 3) := by decide +kernel
theorem dX4_hashWork_95 : decode cX4_hashWork 95 = .ok (.aload_n 0, 1) := by decide +kernel
theorem dX4_hashWork_96 : decode cX4_hashWork 96 = .ok (.invokevirtual 106, 3) := by decide +kernel
theorem dX4_hashWork_99 : decode cX4_hashWork 99 = .ok (.iinc 3 64, 3) := by decide +kernel
theorem dX4_hashWork_102 : decode cX4_hashWork 102 = .ok (.goto (-26), 3) := by decide +kernel
theorem dX4_hashWork_105 : decode cX4_hashWork 105 = .ok (.aload_n 1, 1) := by decide +kernel
theorem dX4_hashWork_106 : decode cX4_hashWork 106 = .ok (.invokevirtual 85, 3) := by decide +kernel
theorem dX4_hashWork_109 : decode cX4_hashWork 109 = .ok (.iconst 0, 1) := by decide +kernel
theorem dX4_hashWork_110 : decode cX4_hashWork 110 = .ok (.istore_n 3, 1) := by decide +kernel
theorem dX4_hashWork_111 : decode cX4_hashWork 111 = .ok (.iload_n 3, 1) := by decide +kernel
theorem dX4_hashWork_112 : decode cX4_hashWork 112 = .ok (.bipush 8, 2) := by decide +kernel
theorem dX4_hashWork_114 : decode cX4_hashWork 114 = .ok (.if_icmp .ge 19, 3) := by decide +kernel
theorem dX4_hashWork_117 : decode cX4_hashWork 117 = .ok (.aload_n 1, 1) := by decide +kernel
theorem dX4_hashWork_118 : decode cX4_hashWork 118 = .ok (.aload_n 0, 1) := by decide +kernel
theorem dX4_hashWork_119 : decode cX4_hashWork 119 = .ok (.getfield 11, 3) := by decide +kernel
theorem dX4_hashWork_122 : decode cX4_hashWork 122 = .ok (.iload_n 3, 1) := by decide +kernel
theorem dX4_hashWork_123 : decode cX4_hashWork 123 = .ok (.iaload, 1) := by decide +kernel
theorem dX4_hashWork_124 : decode cX4_hashWork 124 = .ok (.invokevirtual 91, 3) := by decide +kernel
theorem dX4_hashWork_127 : decode cX4_hashWork 127 = .ok (.iinc 3 1, 3) := by decide +kernel
theorem dX4_hashWork_130 : decode cX4_hashWork 130 = .ok (.goto (-19), 3) := by decide +kernel
theorem dX4_hashWork_133 : decode cX4_hashWork 133 = .ok (.return_, 1) := by decide +kernel
theorem dX4_mixWords_0 : decode cX4_mixWords 0 = .ok (.aload_n 0, 1) := by decide +kernel
theorem dX4_mixWords_1 : decode cX4_mixWords 1 = .ok (.getfield 11, 3) := by decide +kernel
theorem dX4_mixWords_4 : decode cX4_mixWords 4 = .ok (.iconst 0, 1) := by decide +kernel
theorem dX4_mixWords_5 : decode cX4_mixWords 5 = .ok (.iaload, 1) := by decide +kernel
theorem dX4_mixWords_6 : decode cX4_mixWords 6 = .ok (.istore_n 1, 1) := by decide +kernel
theorem dX4_mixWords_7 : decode cX4_mixWords 7 = .ok (.aload_n 0, 1) := by decide +kernel
theorem dX4_mixWords_8 : decode cX4_mixWords 8 = .ok (.getfield 11, 3) := by decide +kernel
theorem dX4_mixWords_11 : decode cX4_mixWords 11 = .ok (.iconst 1, 1) := by decide +kernel
theorem dX4_mixWords_12 : decode cX4_mixWords 12 = .ok (.iaload, 1) := by decide +kernel
theorem dX4_mixWords_13 : decode cX4_mixWords 13 = .ok (.istore_n 2, 1) := by decide +kernel
theorem dX4_mixWords_14 : decode cX4_mixWords 14 = .ok (.aload_n 0, 1) := by decide +kernel
theorem dX4_mixWords_15 : decode cX4_mixWords 15 = .ok (.getfield 11, 3) := by decide +kernel
theorem dX4_mixWords_18 : decode cX4_mixWords 18 = .ok (.iconst 2, 1) := by decide +kernel
theorem dX4_mixWords_19 : decode cX4_mixWords 19 = .ok (.iaload, 1) := by decide +kernel
theorem dX4_mixWords_20 : decode cX4_mixWords 20 = .ok (.istore_n 3, 1) := by decide +kernel
theorem dX4_mixWords_21 : decode cX4_mixWords 21 = .ok (.aload_n 0, 1) := by decide +kernel
theorem dX4_mixWords_22 : decode cX4_mixWords 22 = .ok (.getfield 11, 3) := by decide +kernel
theorem dX4_mixWords_25 : decode cX4_mixWords 25 = .ok (.iconst 3, 1) := by decide +kernel
theorem dX4_mixWords_26 : decode cX4_mixWords 26 = .ok (.iaload, 1) := by decide +kernel
theorem dX4_mixWords_27 : decode cX4_mixWords 27 = .ok (.istore 4, 2) := by decide +kernel
theorem dX4_mixWords_29 : decode cX4_mixWords 29 = .ok (.aload_n 0, 1) := by decide +kernel
theorem dX4_mixWords_30 : decode cX4_mixWords 30 = .ok (.getfield 11, 3) := by decide +kernel
theorem dX4_mixWords_33 : decode cX4_mixWords 33 = .ok (.iconst 4, 1) := by decide +kernel
theorem dX4_mixWords_34 : decode cX4_mixWords 34 = .ok (.iaload, 1) := by decide +kernel
theorem dX4_mixWords_35 : decode cX4_mixWords 35 = .ok (.istore 5, 2) := by decide +kernel
theorem dX4_mixWords_37 : decode cX4_mixWords 37 = .ok (.aload_n 0, 1) := by decide +kernel
theorem dX4_mixWords_38 : decode cX4_mixWords 38 = .ok (.getfield 11, 3) := by decide +kernel
theorem dX4_mixWords_41 : decode cX4_mixWords 41 = .ok (.iconst 5, 1) := by decide +kernel
theorem dX4_mixWords_42 : decode cX4_mixWords 42 = .ok (.iaload, 1) := by decide +kernel
theorem dX4_mixWords_43 : decode cX4_mixWords 43 = .ok (.istore 6, 2) := by decide +kernel
theorem dX4_mixWords_45 : decode cX4_mixWords 45 = .ok (.aload_n 0, 1) := by decide +kernel
theorem dX4_mixWords_46 : decode cX4_mixWords 46 = .ok (.getfield 11, 3) := by decide +kernel
theorem dX4_mixWords_49 : decode cX4_mixWords 49 = .ok (.bipush 6, 2) := by decide +kernel
theorem dX4_mixWords_51 : decode cX4_mixWords 51 = .ok (.iaload, 1) := by decide +kernel
theorem dX4_mixWords_52 : decode cX4_mixWords 52 = .ok (.istore 7, 2) := by decide +kernel
theorem dX4_mixWords_54 : decode cX4_mixWords 54 = .ok (.aload_n 0, 1) := by decide +kernel
theorem dX4_mixWords_55 : decode cX4_mixWords 55 = .ok (.getfield 11, 3) := by decide +kernel
theorem dX4_mixWords_58 : decode cX4_mixWords 58 = .ok (.bipush 7, 2) := by decide +kernel
theorem dX4_mixWords_60 : decode cX4_mixWords 60 = .ok (.iaload, 1) := by decide +kernel
theorem dX4_mixWords_61 : decode cX4_mixWords 61 = .ok (.istore 8, 2) := by decide +kernel
theorem dX4_mixWords_63 : decode cX4_mixWords 63 = .ok (.iconst 0, 1) := by decide +kernel
theorem dX4_mixWords_64 : decode cX4_mixWords 64 = .ok (.istore 9, 2) := by decide +kernel
theorem dX4_mixWords_66 : decode cX4_mixWords 66 = .ok (.iload 9, 2) := by decide +kernel
theorem dX4_mixWords_68 : decode cX4_mixWords 68 = .ok (.bipush 64, 2) := by decide +kernel
theorem dX4_mixWords_70 : decode cX4_mixWords 70 = .ok (.if_icmp .ge 152, 3) := by decide +kernel
theorem dX4_mixWords_73 : decode cX4_mixWords 73 = .ok (.iload 8, 2) := by decide +kernel
theorem dX4_mixWords_75 : decode cX4_mixWords 75 = .ok (.iload 5, 2) := by decide +kernel
theorem dX4_mixWords_77 : decode cX4_mixWords 77 = .ok (.bipush 6, 2) := by decide +kernel
theorem dX4_mixWords_79 : decode cX4_mixWords 79 = .ok (.iushr, 1) := by decide +kernel
theorem dX4_mixWords_80 : decode cX4_mixWords 80 = .ok (.iload 5, 2) := by decide +kernel
theorem dX4_mixWords_82 : decode cX4_mixWords 82 = .ok (.bipush 26, 2) := by decide +kernel
theorem dX4_mixWords_84 : decode cX4_mixWords 84 = .ok (.ishl, 1) := by decide +kernel
theorem dX4_mixWords_85 : decode cX4_mixWords 85 = .ok (.ior, 1) := by decide +kernel
theorem dX4_mixWords_86 : decode cX4_mixWords 86 = .ok (.iload 5, 2) := by decide +kernel
theorem dX4_mixWords_88 : decode cX4_mixWords 88 = .ok (.bipush 11, 2) := by decide +kernel
theorem dX4_mixWords_90 : decode cX4_mixWords 90 = .ok (.iushr, 1) := by decide +kernel
theorem dX4_mixWords_91 : decode cX4_mixWords 91 = .ok (.iload 5, 2) := by decide +kernel
theorem dX4_mixWords_93 : decode cX4_mixWords 93 = .ok (.bipush 21, 2) := by decide +kernel
theorem dX4_mixWords_95 : decode cX4_mixWords 95 = .ok (.ishl, 1) := by decide +kernel
theorem dX4_mixWords_96 : decode cX4_mixWords 96 = .ok (.ior, 1) := by decide +kernel
theorem dX4_mixWords_97 : decode cX4_mixWords 97 = .ok (.ixor, 1) := by decide +kernel
theorem dX4_mixWords_98 : decode cX4_mixWords 98 = .ok (.iload 5, 2) := by decide +kernel
theorem dX4_mixWords_100 : decode cX4_mixWords 100 = .ok (.bipush 25, 2) := by decide +kernel
theorem dX4_mixWords_102 : decode cX4_mixWords 102 = .ok (.iushr, 1) := by decide +kernel
theorem dX4_mixWords_103 : decode cX4_mixWords 103 = .ok (.iload 5, 2) := by decide +kernel
theorem dX4_mixWords_105 : decode cX4_mixWords 105 = .ok (.bipush 7, 2) := by decide +kernel
theorem dX4_mixWords_107 : decode cX4_mixWords 107 = .ok (.ishl, 1) := by decide +kernel
theorem dX4_mixWords_108 : decode cX4_mixWords 108 = .ok (.ior, 1) := by decide +kernel
theorem dX4_mixWords_109 : decode cX4_mixWords 109 = .ok (.ixor, 1) := by decide +kernel
theorem dX4_mixWords_110 : decode cX4_mixWords 110 = .ok (.iadd, 1) := by decide +kernel
theorem dX4_mixWords_111 : decode cX4_mixWords 111 = .ok (.iload 5, 2) := by decide +kernel
theorem dX4_mixWords_113 : decode cX4_mixWords 113 = .ok (.iload 6, 2) := by decide +kernel
theorem dX4_mixWords_115 : decode cX4_mixWords 115 = .ok (.iand, 1) := by decide +kernel
theorem dX4_mixWords_116 : decode cX4_mixWords 116 = .ok (.iload 5, 2) := by decide +kernel
theorem dX4_mixWords_118 : decode cX4_mixWords 118 = .ok (.iconst (-1), 1) := by decide +kernel
theorem dX4_mixWords_119 : decode cX4_mixWords 119 = .ok (.ixor, 1) := by decide +kernel
theorem dX4_mixWords_120 : decode cX4_mixWords 120 = .ok (.iload 7, 2) := by decide +kernel
theorem dX4_mixWords_122 : decode cX4_mixWords 122 = .ok (.iand, 1) := by decide +kernel
theorem dX4_mixWords_123 : decode cX4_mixWords 123 = .ok (.ixor, 1) := by decide +kernel
theorem dX4_mixWords_124 : decode cX4_mixWords 124 = .ok (.iadd, 1) := by decide +kernel
theorem dX4_mixWords_125 : decode cX4_mixWords 125 = .ok (.getstatic 109, 3) := by decide +kernel
theorem dX4_mixWords_128 : decode cX4_mixWords 128 = .ok (.iload 9, 2) := by decide +kernel
theorem dX4_mixWords_130 : decode cX4_mixWords 130 = .ok (.iaload, 1) := by decide +kernel
theorem dX4_mixWords_131 : decode cX4_mixWords 131 = .ok (.iadd, 1) := by decide +kernel
theorem dX4_mixWords_132 : decode cX4_mixWords 132 = .ok (.aload_n 0, 1) := by decide +kernel
theorem dX4_mixWords_133 : decode cX4_mixWords 133 = .ok (.getfield 15, 3) := by decide +kernel
theorem dX4_mixWords_136 : decode cX4_mixWords 136 = .ok (.iload 9, 2) := by decide +kernel
theorem dX4_mixWords_138 : decode cX4_mixWords 138 = .ok (.iaload, 1) := by decide +kernel
theorem dX4_mixWords_139 : decode cX4_mixWords 139 = .ok (.iadd, 1) := by decide +kernel
theorem dX4_mixWords_140 : decode cX4_mixWords 140 = .ok (.istore 10, 2) := by decide +kernel
theorem dX4_mixWords_142 : decode cX4_mixWords 142 = .ok (.iload_n 1, 1) := by decide +kernel
theorem dX4_mixWords_143 : decode cX4_mixWords 143 = .ok (.iconst 2, 1) := by decide +kernel
theorem dX4_mixWords_144 : decode cX4_mixWords 144 = .ok (.iushr, 1) := by decide +kernel
theorem dX4_mixWords_145 : decode cX4_mixWords 145 = .ok (.iload_n 1, 1) := by decide +kernel
theorem dX4_mixWords_146 : decode cX4_mixWords 146 = .ok (.bipush 30, 2) := by decide +kernel
theorem dX4_mixWords_148 : decode cX4_mixWords 148 = .ok (.ishl, 1) := by decide +kernel
theorem dX4_mixWords_149 : decode cX4_mixWords 149 = .ok (.ior, 1) := by decide +kernel
theorem dX4_mixWords_150 : decode cX4_mixWords 150 = .ok (.iload_n 1, 1) := by decide +kernel
theorem dX4_mixWords_151 : decode cX4_mixWords 151 = .ok (.bipush 13, 2) := by decide +kernel
theorem dX4_mixWords_153 : decode cX4_mixWords 153 = .ok (.iushr, 1) := by decide +kernel
theorem dX4_mixWords_154 : decode cX4_mixWords 154 = .ok (.iload_n 1, 1) := by decide +kernel
theorem dX4_mixWords_155 : decode cX4_mixWords 155 = .ok (.bipush 19, 2) := by decide +kernel
theorem dX4_mixWords_157 : decode cX4_mixWords 157 = .ok (.ishl, 1) := by decide +kernel
theorem dX4_mixWords_158 : decode cX4_mixWords 158 = .ok (.ior, 1) := by decide +kernel
theorem dX4_mixWords_159 : decode cX4_mixWords 159 = .ok (.ixor, 1) := by decide +kernel
theorem dX4_mixWords_160 : decode cX4_mixWords 160 = .ok (.iload_n 1, 1) := by decide +kernel
theorem dX4_mixWords_161 : decode cX4_mixWords 161 = .ok (.bipush 22, 2) := by decide +kernel
theorem dX4_mixWords_163 : decode cX4_mixWords 163 = .ok (.iushr, 1) := by decide +kernel
theorem dX4_mixWords_164 : decode cX4_mixWords 164 = .ok (.iload_n 1, 1) := by decide +kernel
end
section
theorem dX4_mixWords_165 : decode cX4_mixWords 165 = .ok (.bipush 10, 2) := by decide +kernel
theorem dX4_mixWords_167 : decode cX4_mixWords 167 = .ok (.ishl, 1) := by decide +kernel
theorem dX4_mixWords_168 : decode cX4_mixWords 168 = .ok (.ior, 1) := by decide +kernel
theorem dX4_mixWords_169 : decode cX4_mixWords 169 = .ok (.ixor, 1) := by decide +kernel
theorem dX4_mixWords_170 : decode cX4_mixWords 170 = .ok (.iload_n 1, 1) := by decide +kernel
theorem dX4_mixWords_171 : decode cX4_mixWords 171 = .ok (.iload_n 2, 1) := by decide +kernel
theorem dX4_mixWords_172 : decode cX4_mixWords 172 = .ok (.iand, 1) := by decide +kernel
theorem dX4_mixWords_173 : decode cX4_mixWords 173 = .ok (.iload_n 1, 1) := by decide +kernel
theorem dX4_mixWords_174 : decode cX4_mixWords 174 = .ok (.iload_n 3, 1) := by decide +kernel
theorem dX4_mixWords_175 : decode cX4_mixWords 175 = .ok (.iand, 1) := by decide +kernel
theorem dX4_mixWords_176 : decode cX4_mixWords 176 = .ok (.ixor, 1) := by decide +kernel
theorem dX4_mixWords_177 : decode cX4_mixWords 177 = .ok (.iload_n 2, 1) := by decide +kernel
theorem dX4_mixWords_178 : decode cX4_mixWords 178 = .ok (.iload_n 3, 1) := by decide +kernel
theorem dX4_mixWords_179 : decode cX4_mixWords 179 = .ok (.iand, 1) := by decide +kernel
theorem dX4_mixWords_180 : decode cX4_mixWords 180 = .ok (.ixor, 1) := by decide +kernel
theorem dX4_mixWords_181 : decode cX4_mixWords 181 = .ok (.iadd, 1) := by decide +kernel
theorem dX4_mixWords_182 : decode cX4_mixWords 182 = .ok (.istore 11, 2) := by decide +kernel
theorem dX4_mixWords_184 : decode cX4_mixWords 184 = .ok (.iload 7, 2) := by decide +kernel
theorem dX4_mixWords_186 : decode cX4_mixWords 186 = .ok (.istore 8, 2) := by decide +kernel
theorem dX4_mixWords_188 : decode cX4_mixWords 188 = .ok (.iload 6, 2) := by decide +kernel
theorem dX4_mixWords_190 : decode cX4_mixWords 190 = .ok (.istore 7, 2) := by decide +kernel
theorem dX4_mixWords_192 : decode cX4_mixWords 192 = .ok (.iload 5, 2) := by decide +kernel
theorem dX4_mixWords_194 : decode cX4_mixWords 194 = .ok (.istore 6, 2) := by decide +kernel
theorem dX4_mixWords_196 : decode cX4_mixWords 196 = .ok (.iload 4, 2) := by decide +kernel
theorem dX4_mixWords_198 : decode cX4_mixWords 198 = .ok (.iload 10, 2) := by decide +kernel
theorem dX4_mixWords_200 : decode cX4_mixWords 200 = .ok (.iadd, 1) := by decide +kernel
theorem dX4_mixWords_201 : decode cX4_mixWords 201 = .ok (.istore 5, 2) := by decide +kernel
theorem dX4_mixWords_203 : decode cX4_mixWords 203 = .ok (.iload_n 3, 1) := by decide +kernel
theorem dX4_mixWords_204 : decode cX4_mixWords 204 = .ok (.istore 4, 2) := by decide +kernel
theorem dX4_mixWords_206 : decode cX4_mixWords 206 = .ok (.iload_n 2, 1) := by decide +kernel
theorem dX4_mixWords_207 : decode cX4_mixWords 207 = .ok (.istore_n 3, 1) := by decide +kernel
theorem dX4_mixWords_208 : decode cX4_mixWords 208 = .ok (.iload_n 1, 1) := by decide +kernel
theorem dX4_mixWords_209 : decode cX4_mixWords 209 = .ok (.istore_n 2, 1) := by decide +kernel
theorem dX4_mixWords_210 : decode cX4_mixWords 210 = .ok (.iload 10, 2) := by decide +kernel
theorem dX4_mixWords_212 : decode cX4_mixWords 212 = .ok (.iload 11, 2) := by decide +kernel
theorem dX4_mixWords_214 : decode cX4_mixWords 214 = .ok (.iadd, 1) := by decide +kernel
theorem dX4_mixWords_215 : decode cX4_mixWords 215 = .ok (.istore_n 1, 1) := by decide +kernel
theorem dX4_mixWords_216 : decode cX4_mixWords 216 = .ok (.iinc 9 1, 3) := by decide +kernel
theorem dX4_mixWords_219 : decode cX4_mixWords 219 = .ok (.goto (-153), 3) := by decide +kernel
theorem dX4_mixWords_222 : decode cX4_mixWords 222 = .ok (.aload_n 0, 1) := by decide +kernel
theorem dX4_mixWords_223 : decode cX4_mixWords 223 = .ok (.getfield 11, 3) := by decide +kernel
theorem dX4_mixWords_226 : decode cX4_mixWords 226 = .ok (.iconst 0, 1) := by decide +kernel
theorem dX4_mixWords_227 : decode cX4_mixWords 227 = .ok (.dup2, 1) := by decide +kernel
theorem dX4_mixWords_228 : decode cX4_mixWords 228 = .ok (.iaload, 1) := by decide +kernel
theorem dX4_mixWords_229 : decode cX4_mixWords 229 = .ok (.iload_n 1, 1) := by decide +kernel
theorem dX4_mixWords_230 : decode cX4_mixWords 230 = .ok (.iadd, 1) := by decide +kernel
theorem dX4_mixWords_231 : decode cX4_mixWords 231 = .ok (.iastore, 1) := by decide +kernel
theorem dX4_mixWords_232 : decode cX4_mixWords 232 = .ok (.aload_n 0, 1) := by decide +kernel
theorem dX4_mixWords_233 : decode cX4_mixWords 233 = .ok (.getfield 11, 3) := by decide +kernel
theorem dX4_mixWords_236 : decode cX4_mixWords 236 = .ok (.iconst 1, 1) := by decide +kernel
theorem dX4_mixWords_237 : decode cX4_mixWords 237 = .ok (.dup2, 1) := by decide +kernel
theorem dX4_mixWords_238 : decode cX4_mixWords 238 = .ok (.iaload, 1) := by decide +kernel
theorem dX4_mixWords_239 : decode cX4_mixWords 239 = .ok (.iload_n 2, 1) := by decide +kernel
theorem dX4_mixWords_240 : decode cX4_mixWords 240 = .ok (.iadd, 1) := by decide +kernel
theorem dX4_mixWords_241 : decode cX4_mixWords 241 = .ok (.iastore, 1) := by decide +kernel
theorem dX4_mixWords_242 : decode cX4_mixWords 242 = .ok (.aload_n 0, 1) := by decide +kernel
theorem dX4_mixWords_243 : decode cX4_mixWords 243 = .ok (.getfield 11, 3) := by decide +kernel
theorem dX4_mixWords_246 : decode cX4_mixWords 246 = .ok (.iconst 2, 1) := by decide +kernel
theorem dX4_mixWords_247 : decode cX4_mixWords 247 = .ok (.dup2, 1) := by decide +kernel
theorem dX4_mixWords_248 : decode cX4_mixWords 248 = .ok (.iaload, 1) := by decide +kernel
theorem dX4_mixWords_249 : decode cX4_mixWords 249 = .ok (.iload_n 3, 1) := by decide +kernel
theorem dX4_mixWords_250 : decode cX4_mixWords 250 = .ok (.iadd, 1) := by decide +kernel
theorem dX4_mixWords_251 : decode cX4_mixWords 251 = .ok (.iastore, 1) := by decide +kernel
theorem dX4_mixWords_252 : decode cX4_mixWords 252 = .ok (.aload_n 0, 1) := by decide +kernel
theorem dX4_mixWords_253 : decode cX4_mixWords 253 = .ok (.getfield 11, 3) := by decide +kernel
theorem dX4_mixWords_256 : decode cX4_mixWords 256 = .ok (.iconst 3, 1) := by decide +kernel
theorem dX4_mixWords_257 : decode cX4_mixWords 257 = .ok (.dup2, 1) := by decide +kernel
theorem dX4_mixWords_258 : decode cX4_mixWords 258 = .ok (.iaload, 1) := by decide +kernel
theorem dX4_mixWords_259 : decode cX4_mixWords 259 = .ok (.iload 4, 2) := by decide +kernel
theorem dX4_mixWords_261 : decode cX4_mixWords 261 = .ok (.iadd, 1) := by decide +kernel
theorem dX4_mixWords_262 : decode cX4_mixWords 262 = .ok (.iastore, 1) := by decide +kernel
theorem dX4_mixWords_263 : decode cX4_mixWords 263 = .ok (.aload_n 0, 1) := by decide +kernel
theorem dX4_mixWords_264 : decode cX4_mixWords 264 = .ok (.getfield 11, 3) := by decide +kernel
theorem dX4_mixWords_267 : decode cX4_mixWords 267 = .ok (.iconst 4, 1) := by decide +kernel
theorem dX4_mixWords_268 : decode cX4_mixWords 268 = .ok (.dup2, 1) := by decide +kernel
theorem dX4_mixWords_269 : decode cX4_mixWords 269 = .ok (.iaload, 1) := by decide +kernel
theorem dX4_mixWords_270 : decode cX4_mixWords 270 = .ok (.iload 5, 2) := by decide +kernel
theorem dX4_mixWords_272 : decode cX4_mixWords 272 = .ok (.iadd, 1) := by decide +kernel
theorem dX4_mixWords_273 : decode cX4_mixWords 273 = .ok (.iastore, 1) := by decide +kernel
theorem dX4_mixWords_274 : decode cX4_mixWords 274 = .ok (.aload_n 0, 1) := by decide +kernel
theorem dX4_mixWords_275 : decode cX4_mixWords 275 = .ok (.getfield 11, 3) := by decide +kernel
theorem dX4_mixWords_278 : decode cX4_mixWords 278 = .ok (.iconst 5, 1) := by decide +kernel
theorem dX4_mixWords_279 : decode cX4_mixWords 279 = .ok (.dup2, 1) := by decide +kernel
theorem dX4_mixWords_280 : decode cX4_mixWords 280 = .ok (.iaload, 1) := by decide +kernel
theorem dX4_mixWords_281 : decode cX4_mixWords 281 = .ok (.iload 6, 2) := by decide +kernel
theorem dX4_mixWords_283 : decode cX4_mixWords 283 = .ok (.iadd, 1) := by decide +kernel
theorem dX4_mixWords_284 : decode cX4_mixWords 284 = .ok (.iastore, 1) := by decide +kernel
theorem dX4_mixWords_285 : decode cX4_mixWords 285 = .ok (.aload_n 0, 1) := by decide +kernel
theorem dX4_mixWords_286 : decode cX4_mixWords 286 = .ok (.getfield 11, 3) := by decide +kernel
theorem dX4_mixWords_289 : decode cX4_mixWords 289 = .ok (.bipush 6, 2) := by decide +kernel
theorem dX4_mixWords_291 : decode cX4_mixWords 291 = .ok (.dup2, 1) := by decide +kernel
theorem dX4_mixWords_292 : decode cX4_mixWords 292 = .ok (.iaload, 1) := by decide +kernel
theorem dX4_mixWords_293 : decode cX4_mixWords 293 = .ok (.iload 7, 2) := by decide +kernel
theorem dX4_mixWords_295 : decode cX4_mixWords 295 = .ok (.iadd, 1) := by decide +kernel
theorem dX4_mixWords_296 : decode cX4_mixWords 296 = .ok (.iastore, 1) := by decide +kernel
theorem dX4_mixWords_297 : decode cX4_mixWords 297 = .ok (.aload_n 0, 1) := by decide +kernel
theorem dX4_mixWords_298 : decode cX4_mixWords 298 = .ok (.getfield 11, 3) := by decide +kernel
theorem dX4_mixWords_301 : decode cX4_mixWords 301 = .ok (.bipush 7, 2) := by decide +kernel
theorem dX4_mixWords_303 : decode cX4_mixWords 303 = .ok (.dup2, 1) := by decide +kernel
theorem dX4_mixWords_304 : decode cX4_mixWords 304 = .ok (.iaload, 1) := by decide +kernel
theorem dX4_mixWords_305 : decode cX4_mixWords 305 = .ok (.iload 8, 2) := by decide +kernel
theorem dX4_mixWords_307 : decode cX4_mixWords 307 = .ok (.iadd, 1) := by decide +kernel
theorem dX4_mixWords_308 : decode cX4_mixWords 308 = .ok (.iastore, 1) := by decide +kernel
theorem dX4_mixWords_309 : decode cX4_mixWords 309 = .ok (.return_, 1) := by decide +kernel
theorem dX4_spreadWords_0 : decode cX4_spreadWords 0 = .ok (.aload_n 0, 1) := by decide +kernel
theorem dX4_spreadWords_1 : decode cX4_spreadWords 1 = .ok (.getfield 23, 3) := by decide +kernel
theorem dX4_spreadWords_4 : decode cX4_spreadWords 4 = .ok (.getfield 112, 3) := by decide +kernel
theorem dX4_spreadWords_7 : decode cX4_spreadWords 7 = .ok (.astore_n 2, 1) := by decide +kernel
theorem dX4_spreadWords_8 : decode cX4_spreadWords 8 = .ok (.iconst 0, 1) := by decide +kernel
theorem dX4_spreadWords_9 : decode cX4_spreadWords 9 = .ok (.istore_n 3, 1) := by decide +kernel
theorem dX4_spreadWords_10 : decode cX4_spreadWords 10 = .ok (.iload_n 3, 1) := by decide +kernel
theorem dX4_spreadWords_11 : decode cX4_spreadWords 11 = .ok (.bipush 16, 2) := by decide +kernel
theorem dX4_spreadWords_13 : decode cX4_spreadWords 13 = .ok (.if_icmp .ge 56, 3) := by decide +kernel
theorem dX4_spreadWords_16 : decode cX4_spreadWords 16 = .ok (.iload_n 1, 1) := by decide +kernel
theorem dX4_spreadWords_17 : decode cX4_spreadWords 17 = .ok (.iconst 4, 1) := by decide +kernel
theorem dX4_spreadWords_18 : decode cX4_spreadWords 18 = .ok (.iload_n 3, 1) := by decide +kernel
theorem dX4_spreadWords_19 : decode cX4_spreadWords 19 = .ok (.imul, 1) := by decide +kernel
theorem dX4_spreadWords_20 : decode cX4_spreadWords 20 = .ok (.iadd, 1) := by decide +kernel
theorem dX4_spreadWords_21 : decode cX4_spreadWords 21 = .ok (.istore 4, 2) := by decide +kernel
theorem dX4_spreadWords_23 : decode cX4_spreadWords 23 = .ok (.aload_n 0, 1) := by decide +kernel
theorem dX4_spreadWords_24 : decode cX4_spreadWords 24 = .ok (.getfield 15, 3) := by decide +kernel
theorem dX4_spreadWords_27 : decode cX4_spreadWords 27 = .ok (.iload_n 3, 1) := by decide +kernel
theorem dX4_spreadWords_28 : decode cX4_spreadWords 28 = .ok (.aload_n 2, 1) := by decide +kernel
theorem dX4_spreadWords_29 : decode cX4_spreadWords 29 = .ok (.iload 4, 2) := by decide +kernel
theorem dX4_spreadWords_31 : decode cX4_spreadWords 31 = .ok (.iaload, 1) := by decide +kernel
theorem dX4_spreadWords_32 : decode cX4_spreadWords 32 = .ok (.bipush 24, 2) := by decide +kernel
theorem dX4_spreadWords_34 : decode cX4_spreadWords 34 = .ok (.ishl, 1) := by decide +kernel
theorem dX4_spreadWords_35 : decode cX4_spreadWords 35 = .ok (.aload_n 2, 1) := by decide +kernel
theorem dX4_spreadWords_36 : decode cX4_spreadWords 36 = .ok (.iload 4, 2) := by decide +kernel
theorem dX4_spreadWords_38 : decode cX4_spreadWords 38 = .ok (.iconst 1, 1) := by decide +kernel
theorem dX4_spreadWords_39 : decode cX4_spreadWords 39 = .ok (.iadd, 1) := by decide +kernel
theorem dX4_spreadWords_40 : decode cX4_spreadWords 40 = .ok (.iaload, 1) := by decide +kernel
theorem dX4_spreadWords_41 : decode cX4_spreadWords 41 = .ok (.bipush 16, 2) := by decide +kernel
theorem dX4_spreadWords_43 : decode cX4_spreadWords 43 = .ok (.ishl, 1) := by decide +kernel
theorem dX4_spreadWords_44 : decode cX4_spreadWords 44 = .ok (.ior, 1) := by decide +kernel
theorem dX4_spreadWords_45 : decode cX4_spreadWords 45 = .ok (.aload_n 2, 1) := by decide +kernel
theorem dX4_spreadWords_46 : decode cX4_spreadWords 46 = .ok (.iload 4, 2) := by decide +kernel
theorem dX4_spreadWords_48 : decode cX4_spreadWords 48 = .ok (.iconst 2, 1) := by decide +kernel
theorem dX4_spreadWords_49 : decode cX4_spreadWords 49 = .ok (.iadd, 1) := by decide +kernel
theorem dX4_spreadWords_50 : decode cX4_spreadWords 50 = .ok (.iaload, 1) := by decide +kernel
theorem dX4_spreadWords_51 : decode cX4_spreadWords 51 = .ok (.bipush 8, 2) := by decide +kernel
theorem dX4_spreadWords_53 : decode cX4_spreadWords 53 = .ok (.ishl, 1) := by decide +kernel
theorem dX4_spreadWords_54 : decode cX4_spreadWords 54 = .ok (.ior, 1) := by decide +kernel
theorem dX4_spreadWords_55 : decode cX4_spreadWords 55 = .ok (.aload_n 2, 1) := by decide +kernel
theorem dX4_spreadWords_56 : decode cX4_spreadWords 56 = .ok (.iload 4, 2) := by decide +kernel
theorem dX4_spreadWords_58 : decode cX4_spreadWords 58 = .ok (.iconst 3, 1) := by decide +kernel
theorem dX4_spreadWords_59 : decode cX4_spreadWords 59 = .ok (.iadd, 1) := by decide +kernel
theorem dX4_spreadWords_60 : decode cX4_spreadWords 60 = .ok (.iaload, 1) := by decide +kernel
theorem dX4_spreadWords_61 : decode cX4_spreadWords 61 = .ok (.ior, 1) := by decide +kernel
theorem dX4_spreadWords_62 : decode cX4_spreadWords 62 = .ok (.iastore, 1) := by decide +kernel
theorem dX4_spreadWords_63 : decode cX4_spreadWords 63 = .ok (.iinc 3 1, 3) := by decide +kernel
theorem dX4_spreadWords_66 : decode cX4_spreadWords 66 = .ok (.goto (-56), 3) := by decide +kernel
theorem dX4_spreadWords_69 : decode cX4_spreadWords 69 = .ok (.bipush 16, 2) := by decide +kernel
theorem dX4_spreadWords_71 : decode cX4_spreadWords 71 = .ok (.istore_n 3, 1) := by decide +kernel
theorem dX4_spreadWords_72 : decode cX4_spreadWords 72 = .ok (.iload_n 3, 1) := by decide +kernel
theorem dX4_spreadWords_73 : decode cX4_spreadWords 73 = .ok (.bipush 64, 2) := by decide +kernel
theorem dX4_spreadWords_75 : decode cX4_spreadWords 75 = .ok (.if_icmp .ge 114, 3) := by decide +kernel
theorem dX4_spreadWords_78 : decode cX4_spreadWords 78 = .ok (.aload_n 0, 1) := by decide +kernel
theorem dX4_spreadWords_79 : decode cX4_spreadWords 79 = .ok (.getfield 15, 3) := by decide +kernel
theorem dX4_spreadWords_82 : decode cX4_spreadWords 82 = .ok (.iload_n 3, 1) := by decide +kernel
theorem dX4_spreadWords_83 : decode cX4_spreadWords 83 = .ok (.bipush 15, 2) := by decide +kernel
theorem dX4_spreadWords_85 : decode cX4_spreadWords 85 = .ok (.isub, 1) := by decide +kernel
theorem dX4_spreadWords_86 : decode cX4_spreadWords 86 = .ok (.iaload, 1) := by decide +kernel
theorem dX4_spreadWords_87 : decode cX4_spreadWords 87 = .ok (.istore 4, 2) := by decide +kernel
theorem dX4_spreadWords_89 : decode cX4_spreadWords 89 = .ok (.aload_n 0, 1) := by decide +kernel
theorem dX4_spreadWords_90 : decode cX4_spreadWords 90 = .ok (.getfield 15, 3) := by decide +kernel
theorem dX4_spreadWords_93 : decode cX4_spreadWords 93 = .ok (.iload_n 3, 1) := by decide +kernel
theorem dX4_spreadWords_94 : decode cX4_spreadWords 94 = .ok (.iconst 2, 1) := by decide +kernel
theorem dX4_spreadWords_95 : decode cX4_spreadWords 95 = .ok (.isub, 1) := by decide +kernel
theorem dX4_spreadWords_96 : decode cX4_spreadWords 96 = .ok (.iaload, 1) := by decide +kernel
theorem dX4_spreadWords_97 : decode cX4_spreadWords 97 = .ok (.istore 5, 2) := by decide +kernel
theorem dX4_spreadWords_99 : decode cX4_spreadWords 99 = .ok (.aload_n 0, 1) := by decide +kernel
theorem dX4_spreadWords_100 : decode cX4_spreadWords 100 = .ok (.getfield 15, 3) := by decide +kernel
theorem dX4_spreadWords_103 : decode cX4_spreadWords 103 = .ok (.iload_n 3, 1) := by decide +kernel
theorem dX4_spreadWords_104 : decode cX4_spreadWords 104 = .ok (.aload_n 0, 1) := by decide +kernel
theorem dX4_spreadWords_105 : decode cX4_spreadWords 105 = .ok (.getfield 15, 3) := by decide +kernel
theorem dX4_spreadWords_108 : decode cX4_spreadWords 108 = .ok (.iload_n 3, 1) := by decide +kernel
theorem dX4_spreadWords_109 : decode cX4_spreadWords 109 = .ok (.bipush 16, 2) := by decide +kernel
theorem dX4_spreadWords_111 : decode cX4_spreadWords 111 = .ok (.isub, 1) := by decide +kernel
theorem dX4_spreadWords_112 : decode cX4_spreadWords 112 = .ok (.iaload, 1) := by decide +kernel
theorem dX4_spreadWords_113 : decode cX4_spreadWords 113 = .ok (.iload 4, 2) := by decide +kernel
theorem dX4_spreadWords_115 : decode cX4_spreadWords 115 = .ok (.bipush 7, 2) := by decide +kernel
theorem dX4_spreadWords_117 : decode cX4_spreadWords 117 = .ok (.iushr, 1) := by decide +kernel
theorem dX4_spreadWords_118 : decode cX4_spreadWords 118 = .ok (.iload 4, 2) := by decide +kernel
theorem dX4_spreadWords_120 : decode cX4_spreadWords 120 = .ok (.bipush 25, 2) := by decide +kernel
theorem dX4_spreadWords_122 : decode cX4_spreadWords 122 = .ok (.ishl, 1) := by decide +kernel
theorem dX4_spreadWords_123 : decode cX4_spreadWords 123 = .ok (.ior, 1) := by decide +kernel
theorem dX4_spreadWords_124 : decode cX4_spreadWords 124 = .ok (.iload 4, 2) := by decide +kernel
theorem dX4_spreadWords_126 : decode cX4_spreadWords 126 = .ok (.bipush 18, 2) := by decide +kernel
theorem dX4_spreadWords_128 : decode cX4_spreadWords 128 = .ok (.iushr, 1) := by decide +kernel
theorem dX4_spreadWords_129 : decode cX4_spreadWords 129 = .ok (.iload 4, 2) := by decide +kernel
theorem dX4_spreadWords_131 : decode cX4_spreadWords 131 = .ok (.bipush 14, 2) := by decide +kernel
theorem dX4_spreadWords_133 : decode cX4_spreadWords 133 = .ok (.ishl, 1) := by decide +kernel
theorem dX4_spreadWords_134 : decode cX4_spreadWords 134 = .ok (.ior, 1) := by decide +kernel
theorem dX4_spreadWords_135 : decode cX4_spreadWords 135 = .ok (.ixor, 1) := by decide +kernel
theorem dX4_spreadWords_136 : decode cX4_spreadWords 136 = .ok (.iload 4, 2) := by decide +kernel
theorem dX4_spreadWords_138 : decode cX4_spreadWords 138 = .ok (.iconst 3, 1) := by decide +kernel
theorem dX4_spreadWords_139 : decode cX4_spreadWords 139 = .ok (.iushr, 1) := by decide +kernel
theorem dX4_spreadWords_140 : decode cX4_spreadWords 140 = .ok (.ixor, 1) := by decide +kernel
theorem dX4_spreadWords_141 : decode cX4_spreadWords 141 = .ok (.iadd, 1) := by decide +kernel
theorem dX4_spreadWords_142 : decode cX4_spreadWords 142 = .ok (.aload_n 0, 1) := by decide +kernel
theorem dX4_spreadWords_143 : decode cX4_spreadWords 143 = .ok (.getfield 15, 3) := by decide +kernel
theorem dX4_spreadWords_146 : decode cX4_spreadWords 146 = .ok (.iload_n 3, 1) := by decide +kernel
theorem dX4_spreadWords_147 : decode cX4_spreadWords 147 = .ok (.bipush 7, 2) := by decide +kernel
theorem dX4_spreadWords_149 : decode cX4_spreadWords 149 = .ok (.isub, 1) := by decide +kernel
theorem dX4_spreadWords_150 : decode cX4_spreadWords 150 = .ok (.iaload, 1) := by decide +kernel
theorem dX4_spreadWords_151 : decode cX4_spreadWords 151 = .ok (.iadd, 1) := by decide +kernel
theorem dX4_spreadWords_152 : decode cX4_spreadWords 152 = .ok (.iload 5, 2) := by decide +kernel
theorem dX4_spreadWords_154 : decode cX4_spreadWords 154 = .ok (.bipush 17, 2) := by decide +kernel
theorem dX4_spreadWords_156 : decode cX4_spreadWords 156 = .ok (.iushr, 1) := by decide +kernel
theorem dX4_spreadWords_157 : decode cX4_spreadWords 157 = .ok (.iload 5, 2) := by decide +kernel
theorem dX4_spreadWords_159 : decode cX4_spreadWords 159 = .ok (.bipush 15, 2) := by decide +kernel
theorem dX4_spreadWords_161 : decode cX4_spreadWords 161 = .ok (.ishl, 1) := by decide +kernel
theorem dX4_spreadWords_162 : decode cX4_spreadWords 162 = .ok (.ior, 1) := by decide +kernel
theorem dX4_spreadWords_163 : decode cX4_spreadWords 163 = .ok (.iload 5, 2) := by decide +kernel
theorem dX4_spreadWords_165 : decode cX4_spreadWords 165 = .ok (.bipush 19, 2) := by decide +kernel
theorem dX4_spreadWords_167 : decode cX4_spreadWords 167 = .ok (.iushr, 1) := by decide +kernel
theorem dX4_spreadWords_168 : decode cX4_spreadWords 168 = .ok (.iload 5, 2) := by decide +kernel
theorem dX4_spreadWords_170 : decode cX4_spreadWords 170 = .ok (.bipush 13, 2) := by decide +kernel
theorem dX4_spreadWords_172 : decode cX4_spreadWords 172 = .ok (.ishl, 1) := by decide +kernel
theorem dX4_spreadWords_173 : decode cX4_spreadWords 173 = .ok (.ior, 1) := by decide +kernel
theorem dX4_spreadWords_174 : decode cX4_spreadWords 174 = .ok (.ixor, 1) := by decide +kernel
theorem dX4_spreadWords_175 : decode cX4_spreadWords 175 = .ok (.iload 5, 2) := by decide +kernel
theorem dX4_spreadWords_177 : decode cX4_spreadWords 177 = .ok (.bipush 10, 2) := by decide +kernel
theorem dX4_spreadWords_179 : decode cX4_spreadWords 179 = .ok (.iushr, 1) := by decide +kernel
theorem dX4_spreadWords_180 : decode cX4_spreadWords 180 = .ok (.ixor, 1) := by decide +kernel
theorem dX4_spreadWords_181 : decode cX4_spreadWords 181 = .ok (.iadd, 1) := by decide +kernel
theorem dX4_spreadWords_182 : decode cX4_spreadWords 182 = .ok (.iastore, 1) := by decide +kernel
theorem dX4_spreadWords_183 : decode cX4_spreadWords 183 = .ok (.iinc 3 1, 3) := by decide +kernel
theorem dX4_spreadWords_186 : decode cX4_spreadWords 186 = .ok (.goto (-114), 3) := by decide +kernel
theorem dX4_spreadWords_189 : decode cX4_spreadWords 189 = .ok (.return_, 1) := by decide +kernel
end
section
/-! for the sealer's walk -/
theorem rt_6 (x : Int32) : (x.toUInt32 >>> ((6 : Int32).toUInt32 &&& Int32.toUInt32 31)).toInt32 ||| x <<< ((26 : Int32) &&& 31) = rt x 6 := rfl
theorem rt_11 (x : Int32) : (x.toUInt32 >>> ((11 : Int32).toUInt32 &&& Int32.toUInt32 31)).toInt32 ||| x <<< ((21 : Int32) &&& 31) = rt x 11 := rfl
theorem rt_25 (x : Int32) : (x.toUInt32 >>> ((25 : Int32).toUInt32 &&& Int32.toUInt32 31)).toInt32 ||| x <<< ((7 : Int32) &&& 31) = rt x 25 := rfl
theorem rt_2 (x : Int32) : (x.toUInt32 >>> ((2 : Int32).toUInt32 &&& Int32.toUInt32 31)).toInt32 ||| x <<< ((30 : Int32) &&& 31) = rt x 2 := rfl
theorem rt_13 (x : Int32) : (x.toUInt32 >>> ((13 : Int32).toUInt32 &&& Int32.toUInt32 31)).toInt32 ||| x <<< ((19 : Int32) &&& 31) = rt x 13 := rfl
theorem rt_22 (x : Int32) : (x.toUInt32 >>> ((22 : Int32).toUInt32 &&& Int32.toUInt32 31)).toInt32 ||| x <<< ((10 : Int32) &&& 31) = rt x 22 := rfl
theorem rt_7 (x : Int32) : (x.toUInt32 >>> ((7 : Int32).toUInt32 &&& Int32.toUInt32 31)).toInt32 ||| x <<< ((25 : Int32) &&& 31) = rt x 7 := rfl
theorem rt_18 (x : Int32) : (x.toUInt32 >>> ((18 : Int32).toUInt32 &&& Int32.toUInt32 31)).toInt32 ||| x <<< ((14 : Int32) &&& 31) = rt x 18 := rfl
theorem rt_17 (x : Int32) : (x.toUInt32 >>> ((17 : Int32).toUInt32 &&& Int32.toUInt32 31)).toInt32 ||| x <<< ((15 : Int32) &&& 31) = rt x 17 := rfl
theorem rt_19 (x : Int32) : (x.toUInt32 >>> ((19 : Int32).toUInt32 &&& Int32.toUInt32 31)).toInt32 ||| x <<< ((13 : Int32) &&& 31) = rt x 19 := rfl
theorem map_take_s {l : List Int32} {f : Int32 → Int32} {j : Nat} (h : j < l.length) : (l.take (j + 1)).map f = (l.take j).map f ++ [f (l.getD j 0)] := by
  rw [List.take_succ_eq_append_getElem h, List.map_append, List.getD_eq_getElem?_getD, List.getElem?_eq_getElem h]
  rfl
theorem rw7 : isRow 7 256 := by unfold isRow; decide
theorem rw9 : isRow 9 64 := by unfold isRow; decide
theorem rw11 : isRow 11 32 := by unfold isRow; decide
theorem rw13 : isRow 13 64 := by unfold isRow; decide
theorem rw15 : isRow 15 32 := by unfold isRow; decide
theorem rw17 : isRow 17 32 := by unfold isRow; decide
theorem rw19 : isRow 19 32 := by unfold isRow; decide
theorem rw506 : isRow 506 1200 := by unfold isRow; decide
theorem row_low : ∀ k, k < 27 → sk k = 3 → k = 7 ∨ k = 9 ∨ k = 11 ∨ k = 13 ∨ k = 15 ∨ k = 17 ∨ k = 19 ∨ k = 26 := by decide
theorem isRow.where {k cap : Nat} (h : isRow k cap) : k = 7 ∨ k = 9 ∨ k = 11 ∨ k = 13 ∨ k = 15 ∨ k = 17 ∨ k = 19 ∨ 26 ≤ k := by
  by_cases hk : k < 27
  · have := row_low k hk h.k; omega
  · omega
/-- nothing outside lo .. hi and the row at k has changed -/
def frB (V V' : Vt) (lo hi k : Nat) : Prop := ∀ j, (j < lo ∨ hi < j) → j ≠ k → j ≠ k + 1 → V' j = V j
theorem frR.toB {V V' : Vt} {k lo hi k2 : Nat} (h : frR V V' k) (hk : lo ≤ k ∧ k + 1 ≤ hi) : frB V V' lo hi k2 := fun j h1 _ _ => h j (by omega) (by omega)
theorem frR.toK {V V' : Vt} {k lo hi : Nat} (h : frR V V' k) : frB V V' lo hi k := fun j _ h2 h3 => h j h2 h3
theorem frB.trans {V V' V'' : Vt} {lo hi k : Nat} (h : frB V V' lo hi k) (h' : frB V' V'' lo hi k) : frB V V'' lo hi k := fun j a b c => (h' j a b c).trans (h j a b c)
theorem frB.wide {V V' : Vt} {lo hi lo2 hi2 k k2 : Nat} (h : frB V V' lo hi k) (h1 : lo2 ≤ lo ∧ hi ≤ hi2) (h2 : k = k2 ∨ (lo2 ≤ k ∧ k + 1 ≤ hi2)) : frB V V' lo2 hi2 k2 := fun j a b c => h j (by omega) (by omega) (by omega)
/-- a row that lies elsewhere is as it was -/
theorem rowIs.other {V V' : Vt} {lo hi k k2 : Nat} {l : List Int32} (h : rowIs V k2 l) (f : frB V V' lo hi k) (h1 : k2 + 1 < lo ∨ hi < k2) (h2 : k2 ≠ k) (h3 : k2 ≠ k + 1) (h4 : k2 + 1 ≠ k) : rowIs V' k2 l := h.keep (f k2 (by omega) h2 h3) (f (k2 + 1) (by omega) h4 (by omega))
theorem rowIs.otherR {V V' : Vt} {k k2 : Nat} {l : List Int32} (h : rowIs V k2 l) (f : frR V V' k) (h2 : k2 ≠ k) (h3 : k2 ≠ k + 1) (h4 : k2 + 1 ≠ k) : rowIs V' k2 l := h.keep (f k2 h2 h3) (f (k2 + 1) h4 (by omega))
theorem mix_end {V V1 V2 V3 V4 V5 V6 V7 V8 : Vt} {a1 a2 a3 a4 a5 a6 a7 a8 : Int32} (h1 : up2 V 5 0 (V 5 0 + a1) = V1) (h2 : up2 V1 5 1 (V1 5 1 + a2) = V2) (h3 : up2 V2 5 2 (V2 5 2 + a3) = V3) (h4 : up2 V3 5 3 (V3 5 3 + a4) = V4) (h5 : up2 V4 5 4 (V4 5 4 + a5) = V5) (h6 : up2 V5 5 5 (V5 5 5 + a6) = V6) (h7 : up2 V6 5 6 (V6 5 6 + a7) = V7) (h8 : up2 V7 5 7 (V7 5 7 + a8) = V8) {g : Nat → Int32}
    (e1 : a1 = g 0) (e2 : a2 = g 1) (e3 : a3 = g 2) (e4 : a4 = g 3) (e5 : a5 = g 4) (e6 : a6 = g 5) (e7 : a7 = g 6) (e8 : a8 = g 7) : (∀ i, i < 8 → V8 5 i = V 5 i + g i) ∧ ∀ j, j ≠ 5 → V8 j = V j := by
  subst h1 h2 h3 h4 h5 h6 h7 h8
  refine ⟨fun i hi => ?_, fun j hj => ?_⟩
  · rcases (show i = 0 ∨ i = 1 ∨ i = 2 ∨ i = 3 ∨ i = 4 ∨ i = 5 ∨ i = 6 ∨ i = 7 by omega) with rfl | rfl | rfl | rfl | rfl | rfl | rfl | rfl <;> simp [up2, va_up, upd, *]
  · simp [up2, va_up, hj]
theorem nI_mul4 (a j : Nat) : nI a + 4 * nI j = nI (a + 4 * j) := by
  rw [show (4 : Int32) = nI 4 from rfl, pk_mul, nI_add]
theorem nI_sub' {a b : Nat} {x : Int32} (e : x = nI a) (b' : Int32) (hb : b' = nI b) (h : b ≤ a) : x - b' = nI (a - b) := by
  subst e; subst hb; exact pk_sub h
end
section
set_option maxHeartbeats 4000000 in
set_option maxRecDepth 100000 in
theorem c_X4_startWork (l : Launch) {E : En} {V : Vt} {kb : List Int32} (h9 : rowIs V 9 kb) (hlen : kb.length = 64) (mask : Int32) : CV l yX4_startWork wsX4_startWork 1 E V [.ref (E.1 + 4), .int mask] (fun V' => rowIs V' 7 (kb.map (fun x => x ^^^ mask)) ∧ frR V V' 7) := by
  refine Met.ofW (cc := cX4_startWork) (maxL := 3) (ret := none) (by decide) rfl ?_
  intro p e s m args below meth c s₁ B hml hv
  obtain ⟨rfl, hM, hK⟩ := hv
  have hx := B.exec
  have hb := B.bytes
  have hr := B.returns
  have hts := atoms_spec (ws := wsX4_startWork) B.pre
  have hown : s.vm.findClass RX4 = some m.cls := findClass_of_methodNamed B.named
  have hlocks := B.notSynchronized
  have hsz : s.heap.size = E.1 + 610 := hM.1
  have hS : va_S (AE E) s.heap s.heap [] := va_S.rf
  have in3 : ∀ w ∈ u_ws RX3 TX3 2, w ∈ wsX4_startWork := by decide +kernel
  have in4 : ∀ w ∈ u_ws RX4 TX4 9, w ∈ wsX4_startWork := by decide +kernel
  have k23 := hts (.fieldLink RX4 23 "LimitTokens$Sealer" "work" "LLimitTokens$Row;") (by decide +kernel)
  have k27 := hts (.fieldLink RX4 27 "LimitTokens$Sealer" "keyBlock" "LLimitTokens$Row;") (by decide +kernel)
  have k55 := hts (.fieldLink RX4 55 "LimitTokens$Row" "length" "I") (by decide +kernel)
  have hl := lv_entry ([.ref (E.1 + 4), .int mask]) (n := 3) (Nat.le_of_ble_eq_true rfl)
  rw [lg_entry_eq]
  generalize (lg_sl ([.ref (E.1 + 4), .int mask]) ++ List.replicate (3 - (lg_sl ([.ref (E.1 + 4), .int mask])).length) Slot.unset).toArray = ls at hl ⊢
  have hl : lv_has ls 3 [(0, .ref (E.1 + 4)), (1, .int mask)] := hl
  refine lv_aload_n hx hb dX4_startWork_0 rfl (lv_at hl 0 rfl) ?_
  refine w_gr 4 2 7 (T := TX4) (N := 9) hx hb hts in4 hown hK.1 hM (by decide) (by decide) (by decide) (by decide) (by decide) rfl (by decide) k23 rfl dX4_startWork_1 ?_
  refine w_cVv (C := RX3) (As := []) (rest := []) ⟨hx, hb, hml, hown, hts⟩ (c_X3_makeEmpty l rw7) (cwV 0 hts gX4_startWork_X3_makeEmpty rfl rfl rfl (by decide +kernel) ⟨Nat.le_of_ble_eq_true rfl, Nat.le_of_ble_eq_true rfl⟩) (w_recv (ci := 3) hK hM (by decide) (by decide) (by decide) rfl) hM hK hS rfl hl.1 rfl (lv_room (Nat.le_of_ble_eq_true rfl)) dX4_startWork_4 ⟨Nat.le_of_ble_eq_true rfl, Nat.le_of_ble_eq_true rfl⟩ (fun V4 H locs hp4 hM hS => ?_)
  refine lv_iconst (v := 0) hx hb dX4_startWork_7 (by decide) ?_
  refine lv_istore_n (lv' := [(2, .int 0), (0, .ref (E.1 + 4)), (1, .int mask)]) hx hb dX4_startWork_8 rfl hl (by decide) rfl (fun ls hl => ?_)
  have loop9 : ∀ (fu : Nat) (Vw : Vt) (H : Heap) (locs : List Loc) (ls : Array Slot) (j : Nat) (x : Int32) (ex : x = nI j) (hj : j ≤ 64) (hw : rowIs Vw 7 ((kb.take j).map (fun x => x ^^^ mask))) (hf : frR V Vw 7), 64 - j < fu → Wd E Vw H → va_S (AE E) s.heap H locs → lv_has ls 3 [(0, .ref (E.1 + 4)), (1, .int mask), (2, .int x)] → W p l e (headSpec wsX4_startWork (rmD 1)).room s m ([.ref (E.1 + 4), .int mask] : List Value).toArray below meth c H locs 0 0 (MQ below (QV E (fun V' => Wd E V') (fun V' => rowIs V' 7 (kb.map (fun x => x ^^^ mask)) ∧ frR V V' 7)) ([.ref (E.1 + 4), .int mask] : List Value).toArray s 0 0 (AE E)) (F0 m 9 ls []) := by
    intro fu
    induction fu with
    | zero => intros; omega
    | succ fu ih =>
      intro Vw H locs ls j x ex hj hw hf hfu hM hS hl
      have h9w : rowIs Vw 9 kb := h9.otherR hf (by decide) (by decide) (by decide)
      refine lv_iload_n hx hb dX4_startWork_9 rfl (lv_at hl 2 rfl) ?_
      refine lv_aload_n hx hb dX4_startWork_10 rfl (lv_at hl 0 rfl) ?_
      refine w_gr 4 3 9 (T := TX4) (N := 9) hx hb hts in4 hown hK.1 hM (by decide) (by decide) (by decide) (by decide) (by decide) rfl (by decide) k27 rfl dX4_startWork_11 ?_
      refine w_gi 3 1 (T := TX3) (N := 2) hx hb hts in3 hown hK.1 hM (by decide) (by decide) (by decide) (by decide) (by decide) rfl (by decide) k55 rfl dX4_startWork_14 ?_
      refine lv_eqi (show Vw 9 1 = nI kb.length from h9w.1) ?_
      refine lv_icmp_ge (tgt := 43) hx hb dX4_startWork_17 (by decide) (fun c_17 => ?_) (fun c_17 => ?_)
      · exact w_vret (free := AE E) Vw hx hb hr hK hS hM (by have := nI_lei ex c_17 (by omega) (by omega); rw [List.take_of_length_le (by omega)] at hw; exact ⟨hw, hf⟩) hlocks dX4_startWork_43
      · have hlt := nI_ltn ex c_17 (by omega) (by omega)
        refine lv_aload_n hx hb dX4_startWork_20 rfl (lv_at hl 0 rfl) ?_
        refine w_gr 4 2 7 (T := TX4) (N := 9) hx hb hts in4 hown hK.1 hM (by decide) (by decide) (by decide) (by decide) (by decide) rfl (by decide) k23 rfl dX4_startWork_21 ?_
        refine lv_aload_n hx hb dX4_startWork_24 rfl (lv_at hl 0 rfl) ?_
        refine w_gr 4 3 9 (T := TX4) (N := 9) hx hb hts in4 hown hK.1 hM (by decide) (by decide) (by decide) (by decide) (by decide) rfl (by decide) k27 rfl dX4_startWork_25 ?_
        refine lv_iload_n hx hb dX4_startWork_28 rfl (lv_at hl 2 rfl) ?_
        refine w_cVi (C := RX3) (As := [.int x]) (rest := [.ref (E.1 + 7)]) ⟨hx, hb, hml, hown, hts⟩ (c_X3_byteAt l rw9 (b := kb) h9w (by omega) x) (cwV 1 hts gX4_startWork_X3_byteAt rfl rfl rfl (by decide +kernel) ⟨Nat.le_of_ble_eq_true rfl, Nat.le_of_ble_eq_true rfl⟩) (w_recv (ci := 3) hK hM (by decide) (by decide) (by decide) rfl) hM hK hS rfl hl.1 rfl (lv_room (Nat.le_of_ble_eq_true rfl)) dX4_startWork_29 ⟨Nat.le_of_ble_eq_true rfl, Nat.le_of_ble_eq_true rfl⟩ (fun r29 V29 H locs hp29 hM hS => ?_)
        obtain ⟨er29, eV⟩ := hp29
        rw [eV] at hM; clear eV
        refine lv_eqi (show r29 = kb.getD j 0 from er29.trans (bAt_in ex (by omega) (by omega))) ?_
        refine lv_iload_n hx hb dX4_startWork_32 rfl (lv_at hl 1 rfl) ?_
        refine lv_ixor hx hb dX4_startWork_33 ?_
        refine w_cVv (C := RX3) (As := [.int ((kb.getD j 0) ^^^ mask)]) (rest := []) ⟨hx, hb, hml, hown, hts⟩ (c_X3_push l rw7 hw (by simp; omega) (kb.getD j 0 ^^^ mask)) (cwV 1 hts gX4_startWork_X3_push rfl rfl rfl (by decide +kernel) ⟨Nat.le_of_ble_eq_true rfl, Nat.le_of_ble_eq_true rfl⟩) (w_recv (ci := 3) hK hM (by decide) (by decide) (by decide) rfl) hM hK hS rfl hl.1 rfl (lv_room (Nat.le_of_ble_eq_true rfl)) dX4_startWork_34 ⟨Nat.le_of_ble_eq_true rfl, Nat.le_of_ble_eq_true rfl⟩ (fun V34 H locs hp34 hM hS => ?_)
        obtain ⟨x2_37, ex2_37⟩ : ∃ y : Int32, y = x + 1 := ⟨_, rfl⟩
        refine lv_iinc (v := x2_37) (lv' := [(2, .int x2_37), (0, .ref (E.1 + 4)), (1, .int mask)]) hx hb dX4_startWork_37 hl (k := 2) rfl (by rw [ex2_37]; rfl) (by decide) rfl (fun ls hl => ?_)
        refine lv_goto (tgt := 9) hx hb dX4_startWork_40 (by decide) ?_
        exact ih V34 _ _ _ (j + 1) _ (by rw [ex2_37, ex, nI_1]) (by omega) (by rw [map_take_s (by omega)]; exact hp34.1) (hf.trans hp34.2) (by omega) hM hS (lv_sub hl [1, 2, 0] rfl)
  exact loop9 _ V4 _ _ _ 0 0 (rfl) (Nat.zero_le _) (hp4.1) (hp4.2) (Nat.lt_succ_self _) hM hS (lv_sub hl [1, 2, 0] rfl)

set_option maxHeartbeats 4000000 in
set_option maxRecDepth 100000 in
theorem c_X4_spreadWords (l : Launch) {E : En} {V : Vt} {a : Nat} (ha : a + 64 ≤ 256) : CV l yX4_spreadWords wsX4_spreadWords 0 E V [.ref (E.1 + 4), .int (nI a)] (fun V' => (∀ t, t < 64 → V' 6 t = sched (be32 (V 8) a) 48 t) ∧ ∀ j, j ≠ 6 → V' j = V j) := by
  refine Met.ofW (cc := cX4_spreadWords) (maxL := 6) (ret := none) (by decide) rfl ?_
  intro p e s m args below meth c s₁ B hml hv
  obtain ⟨rfl, hM, hK⟩ := hv
  have hx := B.exec
  have hb := B.bytes
  have hr := B.returns
  have hts := atoms_spec (ws := wsX4_spreadWords) B.pre
  have hown : s.vm.findClass RX4 = some m.cls := findClass_of_methodNamed B.named
  have hlocks := B.notSynchronized
  have hsz : s.heap.size = E.1 + 610 := hM.1
  have hS : va_S (AE E) s.heap s.heap [] := va_S.rf
  have in3 : ∀ w ∈ u_ws RX3 TX3 2, w ∈ wsX4_spreadWords := by decide +kernel
  have in4 : ∀ w ∈ u_ws RX4 TX4 9, w ∈ wsX4_spreadWords := by decide +kernel
  have k23 := hts (.fieldLink RX4 23 "LimitTokens$Sealer" "work" "LLimitTokens$Row;") (by decide +kernel)
  have k112 := hts (.fieldLink RX4 112 "LimitTokens$Row" "bytes" "[I") (by decide +kernel)
  have k15 := hts (.fieldLink RX4 15 "LimitTokens$Sealer" "words" "[I") (by decide +kernel)
  have hl := lv_entry ([.ref (E.1 + 4), .int (nI a)]) (n := 6) (Nat.le_of_ble_eq_true rfl)
  rw [lg_entry_eq]
  generalize (lg_sl ([.ref (E.1 + 4), .int (nI a)]) ++ List.replicate (6 - (lg_sl ([.ref (E.1 + 4), .int (nI a)])).length) Slot.unset).toArray = ls at hl ⊢
  have hl : lv_has ls 6 [(0, .ref (E.1 + 4)), (1, .int (nI a))] := hl
  refine lv_aload_n hx hb dX4_spreadWords_0 rfl (lv_at hl 0 rfl) ?_
  refine w_gr 4 2 7 (T := TX4) (N := 9) hx hb hts in4 hown hK.1 hM (by decide) (by decide) (by decide) (by decide) (by decide) rfl (by decide) k23 rfl dX4_spreadWords_1 ?_
  refine w_gr 3 0 8 (T := TX3) (N := 2) hx hb hts in3 hown hK.1 hM (by decide) (by decide) (by decide) (by decide) (by decide) rfl (by decide) k112 rfl dX4_spreadWords_4 ?_
  refine lv_astore_n (lv' := [(2, .ref (E.1 + 8)), (0, .ref (E.1 + 4)), (1, .int (nI a))]) hx hb dX4_spreadWords_7 rfl hl (by decide) rfl (fun ls hl => ?_)
  refine lv_iconst (v := 0) hx hb dX4_spreadWords_8 (by decide) ?_
  refine lv_istore_n (lv' := [(3, .int 0), (2, .ref (E.1 + 8)), (0, .ref (E.1 + 4)), (1, .int (nI a))]) hx hb dX4_spreadWords_9 rfl hl (by decide) rfl (fun ls hl => ?_)
  have loop10 : ∀ (fu : Nat) (Vw : Vt) (H : Heap) (locs : List Loc) (ls : Array Slot) (j : Nat) (x : Int32) (ex : x = nI j) (hj : j ≤ 16) (hw : ∀ t, t < j → Vw 6 t = be32 (V 8) a t) (hf : ∀ i, i ≠ 6 → Vw i = V i), 16 - j < fu → Wd E Vw H → va_S (AE E) s.heap H locs → lv_has ls 6 [(0, .ref (E.1 + 4)), (1, .int (nI a)), (2, .ref (E.1 + 8)), (3, .int x)] → W p l e (headSpec wsX4_spreadWords (rmD 0)).room s m ([.ref (E.1 + 4), .int (nI a)] : List Value).toArray below meth c H locs 0 0 (MQ below (QV E (fun V' => Wd E V') (fun V' => (∀ t, t < 64 → V' 6 t = sched (be32 (V 8) a) 48 t) ∧ ∀ j, j ≠ 6 → V' j = V j)) ([.ref (E.1 + 4), .int (nI a)] : List Value).toArray s 0 0 (AE E)) (F0 m 10 ls []) := by
    intro fu
    induction fu with
    | zero => intros; omega
    | succ fu ih =>
      intro Vw H locs ls j x ex hj hw hf hfu hM hS hl
      refine lv_iload_n hx hb dX4_spreadWords_10 rfl (lv_at hl 3 rfl) ?_
      refine lv_bipush (v := 16) hx hb dX4_spreadWords_11 (by decide) ?_
      refine lv_icmp_ge (tgt := 69) hx hb dX4_spreadWords_13 (by decide) (fun c_13 => ?_) (fun c_13 => ?_)
      · refine lv_bipush (v := 16) hx hb dX4_spreadWords_69 (by decide) ?_
        refine lv_istore_n (lv' := [(3, .int 16), (0, .ref (E.1 + 4)), (1, .int (nI a)), (2, .ref (E.1 + 8))]) hx hb dX4_spreadWords_71 rfl hl (by decide) rfl (fun ls hl => ?_)
        have loop72 : ∀ (fu : Nat) (Vz : Vt) (H : Heap) (locs : List Loc) (ls : Array Slot) (n : Nat) (x : Int32) (ex : x = nI (16 + n)) (hn : n ≤ 48) (hz : ∀ t, t < 16 + n → Vz 6 t = sched (be32 (V 8) a) n t) (hfz : ∀ i, i ≠ 6 → Vz i = V i), 48 - n < fu → Wd E Vz H → va_S (AE E) s.heap H locs → lv_has ls 6 [(0, .ref (E.1 + 4)), (3, .int x)] → W p l e (headSpec wsX4_spreadWords (rmD 0)).room s m ([.ref (E.1 + 4), .int (nI a)] : List Value).toArray below meth c H locs 0 0 (MQ below (QV E (fun V' => Wd E V') (fun V' => (∀ t, t < 64 → V' 6 t = sched (be32 (V 8) a) 48 t) ∧ ∀ j, j ≠ 6 → V' j = V j)) ([.ref (E.1 + 4), .int (nI a)] : List Value).toArray s 0 0 (AE E)) (F0 m 72 ls []) := by
          intro fu
          induction fu with
          | zero => intros; omega
          | succ fu ih =>
            intro Vz H locs ls n x ex hn hz hfz hfu hM hS hl
            refine lv_iload_n hx hb dX4_spreadWords_72 rfl (lv_at hl 1 rfl) ?_
            refine lv_bipush (v := 64) hx hb dX4_spreadWords_73 (by decide) ?_
            refine lv_icmp_ge (tgt := 189) hx hb dX4_spreadWords_75 (by decide) (fun c_75 => ?_) (fun c_75 => ?_)
            · exact w_vret (free := AE E) Vz hx hb hr hK hS hM (by have := nI_lei (a := 64) ex c_75 (by omega) (by omega); have h48 : n = 48 := (by omega); subst h48; exact ⟨hz, hfz⟩) hlocks dX4_spreadWords_189
            · have hlt := nI_ltn (a := 64) ex c_75 (by omega) (by omega)
              have s15 := nI_sub' ex 15 (b := 15) rfl (by omega)
              have s2 := nI_sub' ex 2 (b := 2) rfl (by omega)
              have s16 := nI_sub' ex 16 (b := 16) rfl (by omega)
              have s7 := nI_sub' ex 7 (b := 7) rfl (by omega)
              refine lv_aload_n hx hb dX4_spreadWords_78 rfl (lv_at hl 0 rfl) ?_
              refine w_gr 4 1 6 (T := TX4) (N := 9) hx hb hts in4 hown hK.1 hM (by decide) (by decide) (by decide) (by decide) (by decide) rfl (by decide) k15 rfl dX4_spreadWords_79 ?_
              refine lv_iload_n hx hb dX4_spreadWords_82 rfl (lv_at hl 1 rfl) ?_
              refine lv_bipush (v := 15) hx hb dX4_spreadWords_83 (by decide) ?_
              refine lv_isub hx hb dX4_spreadWords_85 ?_
              refine w_ild (N := 64) hx hb hK.1 hM (by decide) (by decide) (by decide) (by rw [s15]; exact vp_in_nI (by omega) (by omega)) dX4_spreadWords_86 ?_
              refine lv_topi (fun x4_87 ex4_87 => ?_)
              refine lv_istore (lv' := [(4, .int x4_87), (0, .ref (E.1 + 4)), (3, .int x)]) hx hb dX4_spreadWords_87 hl (by decide) rfl (fun ls hl => ?_)
              refine lv_aload_n hx hb dX4_spreadWords_89 rfl (lv_at hl 1 rfl) ?_
              refine w_gr 4 1 6 (T := TX4) (N := 9) hx hb hts in4 hown hK.1 hM (by decide) (by decide) (by decide) (by decide) (by decide) rfl (by decide) k15 rfl dX4_spreadWords_90 ?_
              refine lv_iload_n hx hb dX4_spreadWords_93 rfl (lv_at hl 2 rfl) ?_
              refine lv_iconst (v := 2) hx hb dX4_spreadWords_94 (by decide) ?_
              refine lv_isub hx hb dX4_spreadWords_95 ?_
              refine w_ild (N := 64) hx hb hK.1 hM (by decide) (by decide) (by decide) (by rw [s2]; exact vp_in_nI (by omega) (by omega)) dX4_spreadWords_96 ?_
              refine lv_topi (fun x5_97 ex5_97 => ?_)
              refine lv_istore (lv' := [(5, .int x5_97), (4, .int x4_87), (0, .ref (E.1 + 4)), (3, .int x)]) hx hb dX4_spreadWords_97 hl (by decide) rfl (fun ls hl => ?_)
              refine lv_aload_n hx hb dX4_spreadWords_99 rfl (lv_at hl 2 rfl) ?_
              refine w_gr 4 1 6 (T := TX4) (N := 9) hx hb hts in4 hown hK.1 hM (by decide) (by decide) (by decide) (by decide) (by decide) rfl (by decide) k15 rfl dX4_spreadWords_100 ?_
              refine lv_iload_n hx hb dX4_spreadWords_103 rfl (lv_at hl 3 rfl) ?_
              refine lv_aload_n hx hb dX4_spreadWords_104 rfl (lv_at hl 2 rfl) ?_
              refine w_gr 4 1 6 (T := TX4) (N := 9) hx hb hts in4 hown hK.1 hM (by decide) (by decide) (by decide) (by decide) (by decide) rfl (by decide) k15 rfl dX4_spreadWords_105 ?_
              refine lv_iload_n hx hb dX4_spreadWords_108 rfl (lv_at hl 3 rfl) ?_
              refine lv_bipush (v := 16) hx hb dX4_spreadWords_109 (by decide) ?_
              refine lv_isub hx hb dX4_spreadWords_111 ?_
              refine w_ild (N := 64) hx hb hK.1 hM (by decide) (by decide) (by decide) (by rw [s16]; exact vp_in_nI (by omega) (by omega)) dX4_spreadWords_112 ?_
              refine lv_iload hx hb dX4_spreadWords_113 (lv_at hl 1 rfl) ?_
              refine lv_bipush (v := 7) hx hb dX4_spreadWords_115 (by decide) ?_
              refine lv_iushr hx hb dX4_spreadWords_117 rfl ?_
              refine lv_iload hx hb dX4_spreadWords_118 (lv_at hl 1 rfl) ?_
              refine lv_bipush (v := 25) hx hb dX4_spreadWords_120 (by decide) ?_
              refine lv_ishl hx hb dX4_spreadWords_122 ?_
              refine lv_ior hx hb dX4_spreadWords_123 ?_
              refine lv_iload hx hb dX4_spreadWords_124 (lv_at hl 1 rfl) ?_
              refine lv_bipush (v := 18) hx hb dX4_spreadWords_126 (by decide) ?_
              refine lv_iushr hx hb dX4_spreadWords_128 rfl ?_
              refine lv_iload hx hb dX4_spreadWords_129 (lv_at hl 1 rfl) ?_
              refine lv_bipush (v := 14) hx hb dX4_spreadWords_131 (by decide) ?_
              refine lv_ishl hx hb dX4_spreadWords_133 ?_
              refine lv_ior hx hb dX4_spreadWords_134 ?_
              refine lv_ixor hx hb dX4_spreadWords_135 ?_
              refine lv_iload hx hb dX4_spreadWords_136 (lv_at hl 1 rfl) ?_
              refine lv_iconst (v := 3) hx hb dX4_spreadWords_138 (by decide) ?_
              refine lv_iushr hx hb dX4_spreadWords_139 rfl ?_
              refine lv_ixor hx hb dX4_spreadWords_140 ?_
              refine lv_iadd hx hb dX4_spreadWords_141 ?_
              refine lv_aload_n hx hb dX4_spreadWords_142 rfl (lv_at hl 2 rfl) ?_
              refine w_gr 4 1 6 (T := TX4) (N := 9) hx hb hts in4 hown hK.1 hM (by decide) (by decide) (by decide) (by decide) (by decide) rfl (by decide) k15 rfl dX4_spreadWords_143 ?_
              refine lv_iload_n hx hb dX4_spreadWords_146 rfl (lv_at hl 3 rfl) ?_
              refine lv_bipush (v := 7) hx hb dX4_spreadWords_147 (by decide) ?_
              refine lv_isub hx hb dX4_spreadWords_149 ?_
              refine w_ild (N := 64) hx hb hK.1 hM (by decide) (by decide) (by decide) (by rw [s7]; exact vp_in_nI (by omega) (by omega)) dX4_spreadWords_150 ?_
              refine lv_iadd hx hb dX4_spreadWords_151 ?_
              refine lv_iload hx hb dX4_spreadWords_152 (lv_at hl 0 rfl) ?_
              refine lv_bipush (v := 17) hx hb dX4_spreadWords_154 (by decide) ?_
              refine lv_iushr hx hb dX4_spreadWords_156 rfl ?_
              refine lv_iload hx hb dX4_spreadWords_157 (lv_at hl 0 rfl) ?_
              refine lv_bipush (v := 15) hx hb dX4_spreadWords_159 (by decide) ?_
              refine lv_ishl hx hb dX4_spreadWords_161 ?_
              refine lv_ior hx hb dX4_spreadWords_162 ?_
              refine lv_iload hx hb dX4_spreadWords_163 (lv_at hl 0 rfl) ?_
              refine lv_bipush (v := 19) hx hb dX4_spreadWords_165 (by decide) ?_
              refine lv_iushr hx hb dX4_spreadWords_167 rfl ?_
              refine lv_iload hx hb dX4_spreadWords_168 (lv_at hl 0 rfl) ?_
              refine lv_bipush (v := 13) hx hb dX4_spreadWords_170 (by decide) ?_
              refine lv_ishl hx hb dX4_spreadWords_172 ?_
              refine lv_ior hx hb dX4_spreadWords_173 ?_
              refine lv_ixor hx hb dX4_spreadWords_174 ?_
              refine lv_iload hx hb dX4_spreadWords_175 (lv_at hl 0 rfl) ?_
              refine lv_bipush (v := 10) hx hb dX4_spreadWords_177 (by decide) ?_
              refine lv_iushr hx hb dX4_spreadWords_179 rfl ?_
              refine lv_ixor hx hb dX4_spreadWords_180 ?_
              refine lv_iadd hx hb dX4_spreadWords_181 ?_
              refine w_ist (N := 64) hx hb hK.1 hM hS (by decide) (by decide) (by decide) (by rw [ex]; exact vp_in_nI (by omega) (by omega)) dX4_spreadWords_182 (fun H locs hM hS => ?_)
              generalize hV182 : up2 Vz 6 x.toNatClampNeg ((((Vz 6 (x - 16).toNatClampNeg) + (((((x4_87.toUInt32 >>> ((7 : Int32).toUInt32 &&& Int32.toUInt32 31)).toInt32) ||| (x4_87 <<< (25 &&& 31))) ^^^ (((x4_87.toUInt32 >>> ((18 : Int32).toUInt32 &&& Int32.toUInt32 31)).toInt32) ||| (x4_87 <<< (14 &&& 31)))) ^^^ ((x4_87.toUInt32 >>> ((3 : Int32).toUInt32 &&& Int32.toUInt32 31)).toInt32))) + (Vz 6 (x - 7).toNatClampNeg)) + (((((x5_97.toUInt32 >>> ((17 : Int32).toUInt32 &&& Int32.toUInt32 31)).toInt32) ||| (x5_97 <<< (15 &&& 31))) ^^^ (((x5_97.toUInt32 >>> ((19 : Int32).toUInt32 &&& Int32.toUInt32 31)).toInt32) ||| (x5_97 <<< (13 &&& 31)))) ^^^ ((x5_97.toUInt32 >>> ((10 : Int32).toUInt32 &&& Int32.toUInt32 31)).toInt32))) = V182 at hM
              have hz2 : ∀ t, t < 16 + (n + 1) → V182 6 t = sched (be32 (V 8) a) (n + 1) t := by
                subst hV182
                intro t ht
                show _ = upd (sched (be32 (V 8) a) n) (16 + n) _ t
                rw [ex, nI_clamp (by omega)]
                by_cases e : t = 16 + n
                · subst e
                  rw [up2_s, ex4_87, ex5_97, rt_7, rt_18, rt_17, rt_19, s15, s2, ← ex, s16, s7, nI_clamp (by omega), nI_clamp (by omega), nI_clamp (by omega), nI_clamp (by omega), hz _ (by omega), hz _ (by omega), hz _ (by omega), hz _ (by omega), pk_us]
                  rfl
                · rw [up2_o _ _ e, pk_un e]
                  exact hz t (by omega)
              obtain ⟨x3_183, ex3_183⟩ : ∃ y : Int32, y = x + 1 := ⟨_, rfl⟩
              refine lv_iinc (v := x3_183) (lv' := [(3, .int x3_183), (5, .int x5_97), (4, .int x4_87), (0, .ref (E.1 + 4))]) hx hb dX4_spreadWords_183 hl (k := 3) rfl (by rw [ex3_183]; rfl) (by decide) rfl (fun ls hl => ?_)
              refine lv_goto (tgt := 72) hx hb dX4_spreadWords_186 (by decide) ?_
              exact ih V182 _ _ _ (n + 1) _ (by rw [ex3_183, ex, nI_1]; rfl) (by omega) hz2 (fun i hi => by subst hV182; rw [up2_k _ _ hi]; exact hfz i hi) (by omega) hM hS (lv_sub hl [3, 0] rfl)
        exact loop72 _ Vw _ _ _ 0 16 (rfl) (Nat.zero_le _) (fun t ht => hw t (by have := nI_lei (a := 16) ex c_13 (by omega) (by omega); omega)) (hf) (Nat.lt_succ_self _) hM hS (lv_sub hl [1, 0] rfl)
      · have hlt := nI_ltn (a := 16) ex c_13 (by omega) (by omega)
        refine lv_iload_n hx hb dX4_spreadWords_16 rfl (lv_at hl 1 rfl) ?_
        refine lv_iconst (v := 4) hx hb dX4_spreadWords_17 (by decide) ?_
        refine lv_iload_n hx hb dX4_spreadWords_18 rfl (lv_at hl 3 rfl) ?_
        refine lv_imul hx hb dX4_spreadWords_19 ?_
        refine lv_iadd hx hb dX4_spreadWords_20 ?_
        refine lv_topi (fun x4_21 ex4_21 => ?_)
        refine lv_istore (lv' := [(4, .int x4_21), (0, .ref (E.1 + 4)), (1, .int (nI a)), (2, .ref (E.1 + 8)), (3, .int x)]) hx hb dX4_spreadWords_21 hl (by decide) rfl (fun ls hl => ?_)
        have e4 : x4_21 = nI (a + 4 * j) := by rw [ex4_21, ex, nI_mul4]
        have e5 : x4_21 + 1 = nI (a + 4 * j + 1) := by rw [e4, nI_1]
        have e6 : x4_21 + 2 = nI (a + 4 * j + 2) := by rw [e4]; exact nI_add _ 2
        have e7 : x4_21 + 3 = nI (a + 4 * j + 3) := by rw [e4]; exact nI_add _ 3
        refine lv_aload_n hx hb dX4_spreadWords_23 rfl (lv_at hl 1 rfl) ?_
        refine w_gr 4 1 6 (T := TX4) (N := 9) hx hb hts in4 hown hK.1 hM (by decide) (by decide) (by decide) (by decide) (by decide) rfl (by decide) k15 rfl dX4_spreadWords_24 ?_
        refine lv_iload_n hx hb dX4_spreadWords_27 rfl (lv_at hl 4 rfl) ?_
        refine lv_aload_n hx hb dX4_spreadWords_28 rfl (lv_at hl 3 rfl) ?_
        refine lv_iload hx hb dX4_spreadWords_29 (lv_at hl 0 rfl) ?_
        refine w_ild (N := 256) hx hb hK.1 hM (by decide) (by decide) (by decide) (by rw [e4]; exact vp_in_nI (by omega) (by omega)) dX4_spreadWords_31 ?_
        refine lv_bipush (v := 24) hx hb dX4_spreadWords_32 (by decide) ?_
        refine lv_ishl hx hb dX4_spreadWords_34 ?_
        refine lv_aload_n hx hb dX4_spreadWords_35 rfl (lv_at hl 3 rfl) ?_
        refine lv_iload hx hb dX4_spreadWords_36 (lv_at hl 0 rfl) ?_
        refine lv_iconst (v := 1) hx hb dX4_spreadWords_38 (by decide) ?_
        refine lv_iadd hx hb dX4_spreadWords_39 ?_
        refine w_ild (N := 256) hx hb hK.1 hM (by decide) (by decide) (by decide) (by rw [e5]; exact vp_in_nI (by omega) (by omega)) dX4_spreadWords_40 ?_
        refine lv_bipush (v := 16) hx hb dX4_spreadWords_41 (by decide) ?_
        refine lv_ishl hx hb dX4_spreadWords_43 ?_
        refine lv_ior hx hb dX4_spreadWords_44 ?_
        refine lv_aload_n hx hb dX4_spreadWords_45 rfl (lv_at hl 3 rfl) ?_
        refine lv_iload hx hb dX4_spreadWords_46 (lv_at hl 0 rfl) ?_
        refine lv_iconst (v := 2) hx hb dX4_spreadWords_48 (by decide) ?_
        refine lv_iadd hx hb dX4_spreadWords_49 ?_
        refine w_ild (N := 256) hx hb hK.1 hM (by decide) (by decide) (by decide) (by rw [e6]; exact vp_in_nI (by omega) (by omega)) dX4_spreadWords_50 ?_
        refine lv_bipush (v := 8) hx hb dX4_spreadWords_51 (by decide) ?_
        refine lv_ishl hx hb dX4_spreadWords_53 ?_
        refine lv_ior hx hb dX4_spreadWords_54 ?_
        refine lv_aload_n hx hb dX4_spreadWords_55 rfl (lv_at hl 3 rfl) ?_
        refine lv_iload hx hb dX4_spreadWords_56 (lv_at hl 0 rfl) ?_
        refine lv_iconst (v := 3) hx hb dX4_spreadWords_58 (by decide) ?_
        refine lv_iadd hx hb dX4_spreadWords_59 ?_
        refine w_ild (N := 256) hx hb hK.1 hM (by decide) (by decide) (by decide) (by rw [e7]; exact vp_in_nI (by omega) (by omega)) dX4_spreadWords_60 ?_
        refine lv_ior hx hb dX4_spreadWords_61 ?_
        refine w_ist (N := 64) hx hb hK.1 hM hS (by decide) (by decide) (by decide) (by rw [ex]; exact vp_in_nI (by omega) (by omega)) dX4_spreadWords_62 (fun H locs hM hS => ?_)
        generalize hV62 : up2 Vw 6 x.toNatClampNeg (((((Vw 8 x4_21.toNatClampNeg) <<< (24 &&& 31)) ||| ((Vw 8 (x4_21 + 1).toNatClampNeg) <<< (16 &&& 31))) ||| ((Vw 8 (x4_21 + 2).toNatClampNeg) <<< (8 &&& 31))) ||| (Vw 8 (x4_21 + 3).toNatClampNeg)) = V62 at hM
        have hw2 : ∀ t, t < j + 1 → V62 6 t = be32 (V 8) a t := by
          subst hV62
          rw [ex, nI_clamp (by omega)]
          exact lt_s (fun t ht => by rw [up2_o _ _ (by omega)]; exact hw t ht) (by rw [up2_s, e4, nI_clamp (by omega), nI_1, nI_clamp (by omega), show nI (a + 4 * j) + 2 = nI (a + 4 * j + 2) from nI_add _ 2, nI_clamp (by omega), show nI (a + 4 * j) + 3 = nI (a + 4 * j + 3) from nI_add _ 3, nI_clamp (by omega), hf 8 (by decide)]; rfl)
        obtain ⟨x3_63, ex3_63⟩ : ∃ y : Int32, y = x + 1 := ⟨_, rfl⟩
        refine lv_iinc (v := x3_63) (lv' := [(3, .int x3_63), (4, .int x4_21), (0, .ref (E.1 + 4)), (1, .int (nI a)), (2, .ref (E.1 + 8))]) hx hb dX4_spreadWords_63 hl (k := 4) rfl (by rw [ex3_63]; rfl) (by decide) rfl (fun ls hl => ?_)
        refine lv_goto (tgt := 10) hx hb dX4_spreadWords_66 (by decide) ?_
        exact ih V62 _ _ _ (j + 1) _ (by rw [ex3_63, ex, nI_1]) (by omega) hw2 (fun i hi => by subst hV62; rw [up2_k _ _ hi]; exact hf i hi) (by omega) hM hS (lv_sub hl [2, 3, 4, 0] rfl)
  exact loop10 _ V _ _ _ 0 0 (rfl) (Nat.zero_le _) (lt_0) (fun _ _ => rfl) (Nat.lt_succ_self _) hM hS (lv_sub hl [2, 3, 1, 0] rfl)

set_option maxHeartbeats 4000000 in
set_option maxRecDepth 100000 in
theorem c_X4_mixWords (l : Launch) {E : En} {V : Vt}  : CV l yX4_mixWords wsX4_mixWords 0 E V [.ref (E.1 + 4)] (fun V' => (∀ i, i < 8 → V' 5 i = V 5 i + rnds (V 6) (V 5) 64 i) ∧ ∀ j, j ≠ 5 → V' j = V j) := by
  refine Met.ofW (cc := cX4_mixWords) (maxL := 12) (ret := none) (by decide) rfl ?_
  intro p e s m args below meth c s₁ B hml hv
  obtain ⟨rfl, hM, hK⟩ := hv
  have hx := B.exec
  have hb := B.bytes
  have hr := B.returns
  have hts := atoms_spec (ws := wsX4_mixWords) B.pre
  have hown : s.vm.findClass RX4 = some m.cls := findClass_of_methodNamed B.named
  have hlocks := B.notSynchronized
  have hsz : s.heap.size = E.1 + 610 := hM.1
  have hS : va_S (AE E) s.heap s.heap [] := va_S.rf
  have in4 : ∀ w ∈ u_ws RX4 TX4 9, w ∈ wsX4_mixWords := by decide +kernel
  have k11 := hts (.fieldLink RX4 11 "LimitTokens$Sealer" "state" "[I") (by decide +kernel)
  have k15 := hts (.fieldLink RX4 15 "LimitTokens$Sealer" "words" "[I") (by decide +kernel)
  have hl := lv_entry ([.ref (E.1 + 4)]) (n := 12) (Nat.le_of_ble_eq_true rfl)
  rw [lg_entry_eq]
  generalize (lg_sl ([.ref (E.1 + 4)]) ++ List.replicate (12 - (lg_sl ([.ref (E.1 + 4)])).length) Slot.unset).toArray = ls at hl ⊢
  have hl : lv_has ls 12 [(0, .ref (E.1 + 4))] := hl
  obtain ⟨t1, t2, hZ1, hT1, hZ2, hT2⟩ := id hK.2
  refine lv_aload_n hx hb dX4_mixWords_0 rfl (lv_at hl 0 rfl) ?_
  refine w_gr 4 0 5 (T := TX4) (N := 9) hx hb hts in4 hown hK.1 hM (by decide) (by decide) (by decide) (by decide) (by decide) rfl (by decide) k11 rfl dX4_mixWords_1 ?_
  refine lv_iconst (v := 0) hx hb dX4_mixWords_4 (by decide) ?_
  refine w_ild (N := 8) hx hb hK.1 hM (by decide) (by decide) (by decide) (vp_in_nI (n := 0) (by omega) (by omega)) dX4_mixWords_5 ?_
  refine lv_eqi (congrArg (V 5) (show (0 : Int32).toNatClampNeg = 0 by decide)) ?_
  refine lv_topi (fun x1_6 ex1_6 => ?_)
  refine lv_istore_n (lv' := [(1, .int x1_6), (0, .ref (E.1 + 4))]) hx hb dX4_mixWords_6 rfl hl (by decide) rfl (fun ls hl => ?_)
  refine lv_aload_n hx hb dX4_mixWords_7 rfl (lv_at hl 1 rfl) ?_
  refine w_gr 4 0 5 (T := TX4) (N := 9) hx hb hts in4 hown hK.1 hM (by decide) (by decide) (by decide) (by decide) (by decide) rfl (by decide) k11 rfl dX4_mixWords_8 ?_
  refine lv_iconst (v := 1) hx hb dX4_mixWords_11 (by decide) ?_
  refine w_ild (N := 8) hx hb hK.1 hM (by decide) (by decide) (by decide) (vp_in_nI (n := 1) (by omega) (by omega)) dX4_mixWords_12 ?_
  refine lv_eqi (congrArg (V 5) (show (1 : Int32).toNatClampNeg = 1 by decide)) ?_
  refine lv_topi (fun x2_13 ex2_13 => ?_)
  refine lv_istore_n (lv' := [(2, .int x2_13), (1, .int x1_6), (0, .ref (E.1 + 4))]) hx hb dX4_mixWords_13 rfl hl (by decide) rfl (fun ls hl => ?_)
  refine lv_aload_n hx hb dX4_mixWords_14 rfl (lv_at hl 2 rfl) ?_
  refine w_gr 4 0 5 (T := TX4) (N := 9) hx hb hts in4 hown hK.1 hM (by decide) (by decide) (by decide) (by decide) (by decide) rfl (by decide) k11 rfl dX4_mixWords_15 ?_
  refine lv_iconst (v := 2) hx hb dX4_mixWords_18 (by decide) ?_
  refine w_ild (N := 8) hx hb hK.1 hM (by decide) (by decide) (by decide) (vp_in_nI (n := 2) (by omega) (by omega)) dX4_mixWords_19 ?_
  refine lv_eqi (congrArg (V 5) (show (2 : Int32).toNatClampNeg = 2 by decide)) ?_
  refine lv_topi (fun x3_20 ex3_20 => ?_)
  refine lv_istore_n (lv' := [(3, .int x3_20), (2, .int x2_13), (1, .int x1_6), (0, .ref (E.1 + 4))]) hx hb dX4_mixWords_20 rfl hl (by decide) rfl (fun ls hl => ?_)
  refine lv_aload_n hx hb dX4_mixWords_21 rfl (lv_at hl 3 rfl) ?_
  refine w_gr 4 0 5 (T := TX4) (N := 9) hx hb hts in4 hown hK.1 hM (by decide) (by decide) (by decide) (by decide) (by decide) rfl (by decide) k11 rfl dX4_mixWords_22 ?_
  refine lv_iconst (v := 3) hx hb dX4_mixWords_25 (by decide) ?_
  refine w_ild (N := 8) hx hb hK.1 hM (by decide) (by decide) (by decide) (vp_in_nI (n := 3) (by omega) (by omega)) dX4_mixWords_26 ?_
  refine lv_eqi (congrArg (V 5) (show (3 : Int32).toNatClampNeg = 3 by decide)) ?_
  refine lv_topi (fun x4_27 ex4_27 => ?_)
  refine lv_istore (lv' := [(4, .int x4_27), (3, .int x3_20), (2, .int x2_13), (1, .int x1_6), (0, .ref (E.1 + 4))]) hx hb dX4_mixWords_27 hl (by decide) rfl (fun ls hl => ?_)
  refine lv_aload_n hx hb dX4_mixWords_29 rfl (lv_at hl 4 rfl) ?_
  refine w_gr 4 0 5 (T := TX4) (N := 9) hx hb hts in4 hown hK.1 hM (by decide) (by decide) (by decide) (by decide) (by decide) rfl (by decide) k11 rfl dX4_mixWords_30 ?_
  refine lv_iconst (v := 4) hx hb dX4_mixWords_33 (by decide) ?_
  refine w_ild (N := 8) hx hb hK.1 hM (by decide) (by decide) (by decide) (vp_in_nI (n := 4) (by omega) (by omega)) dX4_mixWords_34 ?_
  refine lv_eqi (congrArg (V 5) (show (4 : Int32).toNatClampNeg = 4 by decide)) ?_
  refine lv_topi (fun x5_35 ex5_35 => ?_)
  refine lv_istore (lv' := [(5, .int x5_35), (4, .int x4_27), (3, .int x3_20), (2, .int x2_13), (1, .int x1_6), (0, .ref (E.1 + 4))]) hx hb dX4_mixWords_35 hl (by decide) rfl (fun ls hl => ?_)
  refine lv_aload_n hx hb dX4_mixWords_37 rfl (lv_at hl 5 rfl) ?_
  refine w_gr 4 0 5 (T := TX4) (N := 9) hx hb hts in4 hown hK.1 hM (by decide) (by decide) (by decide) (by decide) (by decide) rfl (by decide) k11 rfl dX4_mixWords_38 ?_
  refine lv_iconst (v := 5) hx hb dX4_mixWords_41 (by decide) ?_
  refine w_ild (N := 8) hx hb hK.1 hM (by decide) (by decide) (by decide) (vp_in_nI (n := 5) (by omega) (by omega)) dX4_mixWords_42 ?_
  refine lv_eqi (congrArg (V 5) (show (5 : Int32).toNatClampNeg = 5 by decide)) ?_
  refine lv_topi (fun x6_43 ex6_43 => ?_)
  refine lv_istore (lv' := [(6, .int x6_43), (5, .int x5_35), (4, .int x4_27), (3, .int x3_20), (2, .int x2_13), (1, .int x1_6), (0, .ref (E.1 + 4))]) hx hb dX4_mixWords_43 hl (by decide) rfl (fun ls hl => ?_)
  refine lv_aload_n hx hb dX4_mixWords_45 rfl (lv_at hl 6 rfl) ?_
  refine w_gr 4 0 5 (T := TX4) (N := 9) hx hb hts in4 hown hK.1 hM (by decide) (by decide) (by decide) (by decide) (by decide) rfl (by decide) k11 rfl dX4_mixWords_46 ?_
  refine lv_bipush (v := 6) hx hb dX4_mixWords_49 (by decide) ?_
  refine w_ild (N := 8) hx hb hK.1 hM (by decide) (by decide) (by decide) (vp_in_nI (n := 6) (by omega) (by omega)) dX4_mixWords_51 ?_
  refine lv_eqi (congrArg (V 5) (show (6 : Int32).toNatClampNeg = 6 by decide)) ?_
  refine lv_topi (fun x7_52 ex7_52 => ?_)
  refine lv_istore (lv' := [(7, .int x7_52), (6, .int x6_43), (5, .int x5_35), (4, .int x4_27), (3, .int x3_20), (2, .int x2_13), (1, .int x1_6), (0, .ref (E.1 + 4))]) hx hb dX4_mixWords_52 hl (by decide) rfl (fun ls hl => ?_)
  refine lv_aload_n hx hb dX4_mixWords_54 rfl (lv_at hl 7 rfl) ?_
  refine w_gr 4 0 5 (T := TX4) (N := 9) hx hb hts in4 hown hK.1 hM (by decide) (by decide) (by decide) (by decide) (by decide) rfl (by decide) k11 rfl dX4_mixWords_55 ?_
  refine lv_bipush (v := 7) hx hb dX4_mixWords_58 (by decide) ?_
  refine w_ild (N := 8) hx hb hK.1 hM (by decide) (by decide) (by decide) (vp_in_nI (n := 7) (by omega) (by omega)) dX4_mixWords_60 ?_
  refine lv_eqi (congrArg (V 5) (show (7 : Int32).toNatClampNeg = 7 by decide)) ?_
  refine lv_topi (fun x8_61 ex8_61 => ?_)
  refine lv_istore (lv' := [(8, .int x8_61), (7, .int x7_52), (6, .int x6_43), (5, .int x5_35), (4, .int x4_27), (3, .int x3_20), (2, .int x2_13), (1, .int x1_6), (0, .ref (E.1 + 4))]) hx hb dX4_mixWords_61 hl (by decide) rfl (fun ls hl => ?_)
  refine lv_iconst (v := 0) hx hb dX4_mixWords_63 (by decide) ?_
  refine lv_istore (lv' := [(9, .int 0), (8, .int x8_61), (7, .int x7_52), (6, .int x6_43), (5, .int x5_35), (4, .int x4_27), (3, .int x3_20), (2, .int x2_13), (1, .int x1_6), (0, .ref (E.1 + 4))]) hx hb dX4_mixWords_64 hl (by decide) rfl (fun ls hl => ?_)
  have loop66 : ∀ (fu : Nat) (Vw : Vt) (H : Heap) (locs : List Loc) (ls : Array Slot) (n : Nat) (a1 : Int32) (a2 : Int32) (a3 : Int32) (a4 : Int32) (a5 : Int32) (a6 : Int32) (a7 : Int32) (a8 : Int32) (x : Int32) (eV : Vw = V) (ex : x = nI n) (hn : n ≤ 64) (e1 : a1 = rnds (V 6) (V 5) n 0) (e2 : a2 = rnds (V 6) (V 5) n 1) (e3 : a3 = rnds (V 6) (V 5) n 2) (e4 : a4 = rnds (V 6) (V 5) n 3) (e5 : a5 = rnds (V 6) (V 5) n 4) (e6 : a6 = rnds (V 6) (V 5) n 5) (e7 : a7 = rnds (V 6) (V 5) n 6) (e8 : a8 = rnds (V 6) (V 5) n 7), 64 - n < fu → Wd E Vw H → va_S (AE E) s.heap H locs → lv_has ls 12 [(0, .ref (E.1 + 4)), (1, .int a1), (2, .int a2), (3, .int a3), (4, .int a4), (5, .int a5), (6, .int a6), (7, .int a7), (8, .int a8), (9, .int x)] → W p l e (headSpec wsX4_mixWords (rmD 0)).room s m ([.ref (E.1 + 4)] : List Value).toArray below meth c H locs 0 0 (MQ below (QV E (fun V' => Wd E V') (fun V' => (∀ i, i < 8 → V' 5 i = V 5 i + rnds (V 6) (V 5) 64 i) ∧ ∀ j, j ≠ 5 → V' j = V j)) ([.ref (E.1 + 4)] : List Value).toArray s 0 0 (AE E)) (F0 m 66 ls []) := by
    intro fu
    induction fu with
    | zero => intros; omega
    | succ fu ih =>
      intro Vw H locs ls n a1 a2 a3 a4 a5 a6 a7 a8 x eV ex hn e1 e2 e3 e4 e5 e6 e7 e8 hfu hM hS hl
      refine lv_iload hx hb dX4_mixWords_66 (lv_at hl 9 rfl) ?_
      refine lv_bipush (v := 64) hx hb dX4_mixWords_68 (by decide) ?_
      refine lv_icmp_ge (tgt := 222) hx hb dX4_mixWords_70 (by decide) (fun c_70 => ?_) (fun c_70 => ?_)
      · refine lv_aload_n hx hb dX4_mixWords_222 rfl (lv_at hl 0 rfl) ?_
        refine w_gr 4 0 5 (T := TX4) (N := 9) hx hb hts in4 hown hK.1 hM (by decide) (by decide) (by decide) (by decide) (by decide) rfl (by decide) k11 rfl dX4_mixWords_223 ?_
        refine lv_iconst (v := 0) hx hb dX4_mixWords_226 (by decide) ?_
        refine lv_dup2_11 hx hb dX4_mixWords_227 rfl rfl ?_
        refine w_ild (N := 8) hx hb hK.1 hM (by decide) (by decide) (by decide) (vp_in_nI (n := 0) (by omega) (by omega)) dX4_mixWords_228 ?_
        refine lv_eqi (congrArg (Vw 5) (show (0 : Int32).toNatClampNeg = 0 by decide)) ?_
        refine lv_iload_n hx hb dX4_mixWords_229 rfl (lv_at hl 1 rfl) ?_
        refine lv_iadd hx hb dX4_mixWords_230 ?_
        refine w_ist (N := 8) hx hb hK.1 hM hS (by decide) (by decide) (by decide) (vp_in_nI (n := 0) (by omega) (by omega)) dX4_mixWords_231 (fun H locs hM hS => ?_)
        rw [show (0 : Int32).toNatClampNeg = 0 by decide] at hM
        generalize hV231 : up2 Vw 5 0 ((Vw 5 0) + a1) = V231 at hM
        refine lv_aload_n hx hb dX4_mixWords_232 rfl (lv_at hl 0 rfl) ?_
        refine w_gr 4 0 5 (T := TX4) (N := 9) hx hb hts in4 hown hK.1 hM (by decide) (by decide) (by decide) (by decide) (by decide) rfl (by decide) k11 rfl dX4_mixWords_233 ?_
        refine lv_iconst (v := 1) hx hb dX4_mixWords_236 (by decide) ?_
        refine lv_dup2_11 hx hb dX4_mixWords_237 rfl rfl ?_
        refine w_ild (N := 8) hx hb hK.1 hM (by decide) (by decide) (by decide) (vp_in_nI (n := 1) (by omega) (by omega)) dX4_mixWords_238 ?_
        refine lv_eqi (congrArg (V231 5) (show (1 : Int32).toNatClampNeg = 1 by decide)) ?_
        refine lv_iload_n hx hb dX4_mixWords_239 rfl (lv_at hl 2 rfl) ?_
        refine lv_iadd hx hb dX4_mixWords_240 ?_
        refine w_ist (N := 8) hx hb hK.1 hM hS (by decide) (by decide) (by decide) (vp_in_nI (n := 1) (by omega) (by omega)) dX4_mixWords_241 (fun H locs hM hS => ?_)
        rw [show (1 : Int32).toNatClampNeg = 1 by decide] at hM
        generalize hV241 : up2 V231 5 1 ((V231 5 1) + a2) = V241 at hM
        refine lv_aload_n hx hb dX4_mixWords_242 rfl (lv_at hl 0 rfl) ?_
        refine w_gr 4 0 5 (T := TX4) (N := 9) hx hb hts in4 hown hK.1 hM (by decide) (by decide) (by decide) (by decide) (by decide) rfl (by decide) k11 rfl dX4_mixWords_243 ?_
        refine lv_iconst (v := 2) hx hb dX4_mixWords_246 (by decide) ?_
        refine lv_dup2_11 hx hb dX4_mixWords_247 rfl rfl ?_
        refine w_ild (N := 8) hx hb hK.1 hM (by decide) (by decide) (by decide) (vp_in_nI (n := 2) (by omega) (by omega)) dX4_mixWords_248 ?_
        refine lv_eqi (congrArg (V241 5) (show (2 : Int32).toNatClampNeg = 2 by decide)) ?_
        refine lv_iload_n hx hb dX4_mixWords_249 rfl (lv_at hl 3 rfl) ?_
        refine lv_iadd hx hb dX4_mixWords_250 ?_
        refine w_ist (N := 8) hx hb hK.1 hM hS (by decide) (by decide) (by decide) (vp_in_nI (n := 2) (by omega) (by omega)) dX4_mixWords_251 (fun H locs hM hS => ?_)
        rw [show (2 : Int32).toNatClampNeg = 2 by decide] at hM
        generalize hV251 : up2 V241 5 2 ((V241 5 2) + a3) = V251 at hM
        refine lv_aload_n hx hb dX4_mixWords_252 rfl (lv_at hl 0 rfl) ?_
        refine w_gr 4 0 5 (T := TX4) (N := 9) hx hb hts in4 hown hK.1 hM (by decide) (by decide) (by decide) (by decide) (by decide) rfl (by decide) k11 rfl dX4_mixWords_253 ?_
        refine lv_iconst (v := 3) hx hb dX4_mixWords_256 (by decide) ?_
        refine lv_dup2_11 hx hb dX4_mixWords_257 rfl rfl ?_
        refine w_ild (N := 8) hx hb hK.1 hM (by decide) (by decide) (by decide) (vp_in_nI (n := 3) (by omega) (by omega)) dX4_mixWords_258 ?_
        refine lv_eqi (congrArg (V251 5) (show (3 : Int32).toNatClampNeg = 3 by decide)) ?_
        refine lv_iload hx hb dX4_mixWords_259 (lv_at hl 4 rfl) ?_
        refine lv_iadd hx hb dX4_mixWords_261 ?_
        refine w_ist (N := 8) hx hb hK.1 hM hS (by decide) (by decide) (by decide) (vp_in_nI (n := 3) (by omega) (by omega)) dX4_mixWords_262 (fun H locs hM hS => ?_)
        rw [show (3 : Int32).toNatClampNeg = 3 by decide] at hM
        generalize hV262 : up2 V251 5 3 ((V251 5 3) + a4) = V262 at hM
        refine lv_aload_n hx hb dX4_mixWords_263 rfl (lv_at hl 0 rfl) ?_
        refine w_gr 4 0 5 (T := TX4) (N := 9) hx hb hts in4 hown hK.1 hM (by decide) (by decide) (by decide) (by decide) (by decide) rfl (by decide) k11 rfl dX4_mixWords_264 ?_
        refine lv_iconst (v := 4) hx hb dX4_mixWords_267 (by decide) ?_
        refine lv_dup2_11 hx hb dX4_mixWords_268 rfl rfl ?_
        refine w_ild (N := 8) hx hb hK.1 hM (by decide) (by decide) (by decide) (vp_in_nI (n := 4) (by omega) (by omega)) dX4_mixWords_269 ?_
        refine lv_eqi (congrArg (V262 5) (show (4 : Int32).toNatClampNeg = 4 by decide)) ?_
        refine lv_iload hx hb dX4_mixWords_270 (lv_at hl 5 rfl) ?_
        refine lv_iadd hx hb dX4_mixWords_272 ?_
        refine w_ist (N := 8) hx hb hK.1 hM hS (by decide) (by decide) (by decide) (vp_in_nI (n := 4) (by omega) (by omega)) dX4_mixWords_273 (fun H locs hM hS => ?_)
        rw [show (4 : Int32).toNatClampNeg = 4 by decide] at hM
        generalize hV273 : up2 V262 5 4 ((V262 5 4) + a5) = V273 at hM
        refine lv_aload_n hx hb dX4_mixWords_274 rfl (lv_at hl 0 rfl) ?_
        refine w_gr 4 0 5 (T := TX4) (N := 9) hx hb hts in4 hown hK.1 hM (by decide) (by decide) (by decide) (by decide) (by decide) rfl (by decide) k11 rfl dX4_mixWords_275 ?_
        refine lv_iconst (v := 5) hx hb dX4_mixWords_278 (by decide) ?_
        refine lv_dup2_11 hx hb dX4_mixWords_279 rfl rfl ?_
        refine w_ild (N := 8) hx hb hK.1 hM (by decide) (by decide) (by decide) (vp_in_nI (n := 5) (by omega) (by omega)) dX4_mixWords_280 ?_
        refine lv_eqi (congrArg (V273 5) (show (5 : Int32).toNatClampNeg = 5 by decide)) ?_
        refine lv_iload hx hb dX4_mixWords_281 (lv_at hl 6 rfl) ?_
        refine lv_iadd hx hb dX4_mixWords_283 ?_
        refine w_ist (N := 8) hx hb hK.1 hM hS (by decide) (by decide) (by decide) (vp_in_nI (n := 5) (by omega) (by omega)) dX4_mixWords_284 (fun H locs hM hS => ?_)
        rw [show (5 : Int32).toNatClampNeg = 5 by decide] at hM
        generalize hV284 : up2 V273 5 5 ((V273 5 5) + a6) = V284 at hM
        refine lv_aload_n hx hb dX4_mixWords_285 rfl (lv_at hl 0 rfl) ?_
        refine w_gr 4 0 5 (T := TX4) (N := 9) hx hb hts in4 hown hK.1 hM (by decide) (by decide) (by decide) (by decide) (by decide) rfl (by decide) k11 rfl dX4_mixWords_286 ?_
        refine lv_bipush (v := 6) hx hb dX4_mixWords_289 (by decide) ?_
        refine lv_dup2_11 hx hb dX4_mixWords_291 rfl rfl ?_
        refine w_ild (N := 8) hx hb hK.1 hM (by decide) (by decide) (by decide) (vp_in_nI (n := 6) (by omega) (by omega)) dX4_mixWords_292 ?_
        refine lv_eqi (congrArg (V284 5) (show (6 : Int32).toNatClampNeg = 6 by decide)) ?_
        refine lv_iload hx hb dX4_mixWords_293 (lv_at hl 7 rfl) ?_
        refine lv_iadd hx hb dX4_mixWords_295 ?_
        refine w_ist (N := 8) hx hb hK.1 hM hS (by decide) (by decide) (by decide) (vp_in_nI (n := 6) (by omega) (by omega)) dX4_mixWords_296 (fun H locs hM hS => ?_)
        rw [show (6 : Int32).toNatClampNeg = 6 by decide] at hM
        generalize hV296 : up2 V284 5 6 ((V284 5 6) + a7) = V296 at hM
        refine lv_aload_n hx hb dX4_mixWords_297 rfl (lv_at hl 0 rfl) ?_
        refine w_gr 4 0 5 (T := TX4) (N := 9) hx hb hts in4 hown hK.1 hM (by decide) (by decide) (by decide) (by decide) (by decide) rfl (by decide) k11 rfl dX4_mixWords_298 ?_
        refine lv_bipush (v := 7) hx hb dX4_mixWords_301 (by decide) ?_
        refine lv_dup2_11 hx hb dX4_mixWords_303 rfl rfl ?_
        refine w_ild (N := 8) hx hb hK.1 hM (by decide) (by decide) (by decide) (vp_in_nI (n := 7) (by omega) (by omega)) dX4_mixWords_304 ?_
        refine lv_eqi (congrArg (V296 5) (show (7 : Int32).toNatClampNeg = 7 by decide)) ?_
        refine lv_iload hx hb dX4_mixWords_305 (lv_at hl 8 rfl) ?_
        refine lv_iadd hx hb dX4_mixWords_307 ?_
        refine w_ist (N := 8) hx hb hK.1 hM hS (by decide) (by decide) (by decide) (vp_in_nI (n := 7) (by omega) (by omega)) dX4_mixWords_308 (fun H locs hM hS => ?_)
        rw [show (7 : Int32).toNatClampNeg = 7 by decide] at hM
        generalize hV308 : up2 V296 5 7 ((V296 5 7) + a8) = V308 at hM
        exact w_vret (free := AE E) V308 hx hb hr hK hS hM (by have := nI_lei (a := 64) ex c_70 (by omega) (by omega); have h64 : n = 64 := (by omega); subst h64; subst eV; exact mix_end hV231 hV241 hV251 hV262 hV273 hV284 hV296 hV308 e1 e2 e3 e4 e5 e6 e7 e8) hlocks dX4_mixWords_309
      · have hlt := nI_ltn (a := 64) ex c_70 (by omega) (by omega)
        refine lv_iload hx hb dX4_mixWords_73 (lv_at hl 8 rfl) ?_
        refine lv_iload hx hb dX4_mixWords_75 (lv_at hl 5 rfl) ?_
        refine lv_bipush (v := 6) hx hb dX4_mixWords_77 (by decide) ?_
        refine lv_iushr hx hb dX4_mixWords_79 rfl ?_
        refine lv_iload hx hb dX4_mixWords_80 (lv_at hl 5 rfl) ?_
        refine lv_bipush (v := 26) hx hb dX4_mixWords_82 (by decide) ?_
        refine lv_ishl hx hb dX4_mixWords_84 ?_
        refine lv_ior hx hb dX4_mixWords_85 ?_
        refine lv_iload hx hb dX4_mixWords_86 (lv_at hl 5 rfl) ?_
        refine lv_bipush (v := 11) hx hb dX4_mixWords_88 (by decide) ?_
        refine lv_iushr hx hb dX4_mixWords_90 rfl ?_
        refine lv_iload hx hb dX4_mixWords_91 (lv_at hl 5 rfl) ?_
        refine lv_bipush (v := 21) hx hb dX4_mixWords_93 (by decide) ?_
        refine lv_ishl hx hb dX4_mixWords_95 ?_
        refine lv_ior hx hb dX4_mixWords_96 ?_
        refine lv_ixor hx hb dX4_mixWords_97 ?_
        refine lv_iload hx hb dX4_mixWords_98 (lv_at hl 5 rfl) ?_
        refine lv_bipush (v := 25) hx hb dX4_mixWords_100 (by decide) ?_
        refine lv_iushr hx hb dX4_mixWords_102 rfl ?_
        refine lv_iload hx hb dX4_mixWords_103 (lv_at hl 5 rfl) ?_
        refine lv_bipush (v := 7) hx hb dX4_mixWords_105 (by decide) ?_
        refine lv_ishl hx hb dX4_mixWords_107 ?_
        refine lv_ior hx hb dX4_mixWords_108 ?_
        refine lv_ixor hx hb dX4_mixWords_109 ?_
        refine lv_iadd hx hb dX4_mixWords_110 ?_
        refine lv_iload hx hb dX4_mixWords_111 (lv_at hl 5 rfl) ?_
        refine lv_iload hx hb dX4_mixWords_113 (lv_at hl 6 rfl) ?_
        refine lv_iand hx hb dX4_mixWords_115 ?_
        refine lv_iload hx hb dX4_mixWords_116 (lv_at hl 5 rfl) ?_
        refine lv_iconst (v := (-1)) hx hb dX4_mixWords_118 (by decide) ?_
        refine lv_ixor hx hb dX4_mixWords_119 ?_
        refine lv_iload hx hb dX4_mixWords_120 (lv_at hl 7 rfl) ?_
        refine lv_iand hx hb dX4_mixWords_122 ?_
        refine lv_ixor hx hb dX4_mixWords_123 ?_
        refine lv_iadd hx hb dX4_mixWords_124 ?_
        refine va_gets hx hb hZ2 hS hown (hts (.fieldLink RX4 109 "LimitTokens$Sealer" "CUBE_ROOTS" "[I") (by decide +kernel)) (fun _ h => h) dX4_mixWords_125 ?_
        refine lv_iload hx hb dX4_mixWords_128 (lv_at hl 9 rfl) ?_
        refine va_ti hx hb hT2 hS (by rw [ex]; exact vp_in_nI (by omega) (by omega)) (v := .int (cuT.getD n 0)) (by rw [ex, nI_clamp (by omega)]) dX4_mixWords_130 ?_
        refine lv_iadd hx hb dX4_mixWords_131 ?_
        refine lv_aload_n hx hb dX4_mixWords_132 rfl (lv_at hl 0 rfl) ?_
        refine w_gr 4 1 6 (T := TX4) (N := 9) hx hb hts in4 hown hK.1 hM (by decide) (by decide) (by decide) (by decide) (by decide) rfl (by decide) k15 rfl dX4_mixWords_133 ?_
        refine lv_iload hx hb dX4_mixWords_136 (lv_at hl 9 rfl) ?_
        refine w_ild (N := 64) hx hb hK.1 hM (by decide) (by decide) (by decide) (by rw [ex]; exact vp_in_nI (by omega) (by omega)) dX4_mixWords_138 ?_
        refine lv_iadd hx hb dX4_mixWords_139 ?_
        refine lv_topi (fun x10_140 ex10_140 => ?_)
        refine lv_istore (lv' := [(10, .int x10_140), (0, .ref (E.1 + 4)), (1, .int a1), (2, .int a2), (3, .int a3), (4, .int a4), (5, .int a5), (6, .int a6), (7, .int a7), (8, .int a8), (9, .int x)]) hx hb dX4_mixWords_140 hl (by decide) rfl (fun ls hl => ?_)
        refine lv_iload_n hx hb dX4_mixWords_142 rfl (lv_at hl 2 rfl) ?_
        refine lv_iconst (v := 2) hx hb dX4_mixWords_143 (by decide) ?_
        refine lv_iushr hx hb dX4_mixWords_144 rfl ?_
        refine lv_iload_n hx hb dX4_mixWords_145 rfl (lv_at hl 2 rfl) ?_
        refine lv_bipush (v := 30) hx hb dX4_mixWords_146 (by decide) ?_
        refine lv_ishl hx hb dX4_mixWords_148 ?_
        refine lv_ior hx hb dX4_mixWords_149 ?_
        refine lv_iload_n hx hb dX4_mixWords_150 rfl (lv_at hl 2 rfl) ?_
        refine lv_bipush (v := 13) hx hb dX4_mixWords_151 (by decide) ?_
        refine lv_iushr hx hb dX4_mixWords_153 rfl ?_
        refine lv_iload_n hx hb dX4_mixWords_154 rfl (lv_at hl 2 rfl) ?_
        refine lv_bipush (v := 19) hx hb dX4_mixWords_155 (by decide) ?_
        refine lv_ishl hx hb dX4_mixWords_157 ?_
        refine lv_ior hx hb dX4_mixWords_158 ?_
        refine lv_ixor hx hb dX4_mixWords_159 ?_
        refine lv_iload_n hx hb dX4_mixWords_160 rfl (lv_at hl 2 rfl) ?_
        refine lv_bipush (v := 22) hx hb dX4_mixWords_161 (by decide) ?_
        refine lv_iushr hx hb dX4_mixWords_163 rfl ?_
        refine lv_iload_n hx hb dX4_mixWords_164 rfl (lv_at hl 2 rfl) ?_
        refine lv_bipush (v := 10) hx hb dX4_mixWords_165 (by decide) ?_
        refine lv_ishl hx hb dX4_mixWords_167 ?_
        refine lv_ior hx hb dX4_mixWords_168 ?_
        refine lv_ixor hx hb dX4_mixWords_169 ?_
        refine lv_iload_n hx hb dX4_mixWords_170 rfl (lv_at hl 2 rfl) ?_
        refine lv_iload_n hx hb dX4_mixWords_171 rfl (lv_at hl 3 rfl) ?_
        refine lv_iand hx hb dX4_mixWords_172 ?_
        refine lv_iload_n hx hb dX4_mixWords_173 rfl (lv_at hl 2 rfl) ?_
        refine lv_iload_n hx hb dX4_mixWords_174 rfl (lv_at hl 4 rfl) ?_
        refine lv_iand hx hb dX4_mixWords_175 ?_
        refine lv_ixor hx hb dX4_mixWords_176 ?_
        refine lv_iload_n hx hb dX4_mixWords_177 rfl (lv_at hl 3 rfl) ?_
        refine lv_iload_n hx hb dX4_mixWords_178 rfl (lv_at hl 4 rfl) ?_
        refine lv_iand hx hb dX4_mixWords_179 ?_
        refine lv_ixor hx hb dX4_mixWords_180 ?_
        refine lv_iadd hx hb dX4_mixWords_181 ?_
        refine lv_topi (fun x11_182 ex11_182 => ?_)
        refine lv_istore (lv' := [(11, .int x11_182), (10, .int x10_140), (0, .ref (E.1 + 4)), (1, .int a1), (2, .int a2), (3, .int a3), (4, .int a4), (5, .int a5), (6, .int a6), (7, .int a7), (8, .int a8), (9, .int x)]) hx hb dX4_mixWords_182 hl (by decide) rfl (fun ls hl => ?_)
        have eX : x10_140 = rX (cuT.getD n 0) (V 6 n) (rnds (V 6) (V 5) n) := by rw [ex10_140, rt_6, rt_11, rt_25, eV, ex, nI_clamp (by omega), e8, e5, e6, e7]; rfl
        have eY : x11_182 = rY (rnds (V 6) (V 5) n) := by rw [ex11_182, rt_2, rt_13, rt_22, e1, e2, e3]; rfl
        refine lv_iload hx hb dX4_mixWords_184 (lv_at hl 9 rfl) ?_
        refine lv_istore (lv' := [(8, .int a7), (11, .int x11_182), (10, .int x10_140), (0, .ref (E.1 + 4)), (1, .int a1), (2, .int a2), (3, .int a3), (4, .int a4), (5, .int a5), (6, .int a6), (7, .int a7), (9, .int x)]) hx hb dX4_mixWords_186 hl (by decide) rfl (fun ls hl => ?_)
        refine lv_iload hx hb dX4_mixWords_188 (lv_at hl 9 rfl) ?_
        refine lv_istore (lv' := [(7, .int a6), (8, .int a7), (11, .int x11_182), (10, .int x10_140), (0, .ref (E.1 + 4)), (1, .int a1), (2, .int a2), (3, .int a3), (4, .int a4), (5, .int a5), (6, .int a6), (9, .int x)]) hx hb dX4_mixWords_190 hl (by decide) rfl (fun ls hl => ?_)
        refine lv_iload hx hb dX4_mixWords_192 (lv_at hl 9 rfl) ?_
        refine lv_istore (lv' := [(6, .int a5), (7, .int a6), (8, .int a7), (11, .int x11_182), (10, .int x10_140), (0, .ref (E.1 + 4)), (1, .int a1), (2, .int a2), (3, .int a3), (4, .int a4), (5, .int a5), (9, .int x)]) hx hb dX4_mixWords_194 hl (by decide) rfl (fun ls hl => ?_)
        refine lv_iload hx hb dX4_mixWords_196 (lv_at hl 9 rfl) ?_
        refine lv_iload hx hb dX4_mixWords_198 (lv_at hl 4 rfl) ?_
        refine lv_iadd hx hb dX4_mixWords_200 ?_
        refine lv_topi (fun x5_201 ex5_201 => ?_)
        refine lv_istore (lv' := [(5, .int x5_201), (6, .int a5), (7, .int a6), (8, .int a7), (11, .int x11_182), (10, .int x10_140), (0, .ref (E.1 + 4)), (1, .int a1), (2, .int a2), (3, .int a3), (4, .int a4), (9, .int x)]) hx hb dX4_mixWords_201 hl (by decide) rfl (fun ls hl => ?_)
        refine lv_iload_n hx hb dX4_mixWords_203 rfl (lv_at hl 9 rfl) ?_
        refine lv_istore (lv' := [(4, .int a3), (5, .int x5_201), (6, .int a5), (7, .int a6), (8, .int a7), (11, .int x11_182), (10, .int x10_140), (0, .ref (E.1 + 4)), (1, .int a1), (2, .int a2), (3, .int a3), (9, .int x)]) hx hb dX4_mixWords_204 hl (by decide) rfl (fun ls hl => ?_)
        refine lv_iload_n hx hb dX4_mixWords_206 rfl (lv_at hl 9 rfl) ?_
        refine lv_istore_n (lv' := [(3, .int a2), (4, .int a3), (5, .int x5_201), (6, .int a5), (7, .int a6), (8, .int a7), (11, .int x11_182), (10, .int x10_140), (0, .ref (E.1 + 4)), (1, .int a1), (2, .int a2), (9, .int x)]) hx hb dX4_mixWords_207 rfl hl (by decide) rfl (fun ls hl => ?_)
        refine lv_iload_n hx hb dX4_mixWords_208 rfl (lv_at hl 9 rfl) ?_
        refine lv_istore_n (lv' := [(2, .int a1), (3, .int a2), (4, .int a3), (5, .int x5_201), (6, .int a5), (7, .int a6), (8, .int a7), (11, .int x11_182), (10, .int x10_140), (0, .ref (E.1 + 4)), (1, .int a1), (9, .int x)]) hx hb dX4_mixWords_209 rfl hl (by decide) rfl (fun ls hl => ?_)
        refine lv_iload hx hb dX4_mixWords_210 (lv_at hl 8 rfl) ?_
        refine lv_iload hx hb dX4_mixWords_212 (lv_at hl 7 rfl) ?_
        refine lv_iadd hx hb dX4_mixWords_214 ?_
        refine lv_topi (fun x1_215 ex1_215 => ?_)
        refine lv_istore_n (lv' := [(1, .int x1_215), (2, .int a1), (3, .int a2), (4, .int a3), (5, .int x5_201), (6, .int a5), (7, .int a6), (8, .int a7), (11, .int x11_182), (10, .int x10_140), (0, .ref (E.1 + 4)), (9, .int x)]) hx hb dX4_mixWords_215 rfl hl (by decide) rfl (fun ls hl => ?_)
        obtain ⟨x9_216, ex9_216⟩ : ∃ y : Int32, y = x + 1 := ⟨_, rfl⟩
        refine lv_iinc (v := x9_216) (lv' := [(9, .int x9_216), (1, .int x1_215), (2, .int a1), (3, .int a2), (4, .int a3), (5, .int x5_201), (6, .int a5), (7, .int a6), (8, .int a7), (11, .int x11_182), (10, .int x10_140), (0, .ref (E.1 + 4))]) hx hb dX4_mixWords_216 hl (k := 11) rfl (by rw [ex9_216]; rfl) (by decide) rfl (fun ls hl => ?_)
        refine lv_goto (tgt := 66) hx hb dX4_mixWords_219 (by decide) ?_
        exact ih Vw _ _ _ (n + 1) _ _ _ _ _ _ _ _ _ eV (by rw [ex9_216, ex, nI_1]) (by omega) (by rw [ex1_215, eX, eY]; rfl) (by rw [e1]; rfl) (by rw [e2]; rfl) (by rw [e3]; rfl) (by rw [ex5_201, eX, e4]; rfl) (by rw [e5]; rfl) (by rw [e6]; rfl) (by rw [e7]; rfl) (by omega) hM hS (lv_sub hl [11, 1, 2, 3, 4, 5, 6, 7, 8, 0] rfl)
  exact loop66 _ V _ _ _ 0 x1_6 x2_13 x3_20 x4_27 x5_35 x6_43 x7_52 x8_61 0 (rfl) (rfl) (Nat.zero_le _) (ex1_6) (ex2_13) (ex3_20) (ex4_27) (ex5_35) (ex6_43) (ex7_52) (ex8_61) (Nat.lt_succ_self _) hM hS (lv_sub hl [9, 8, 7, 6, 5, 4, 3, 2, 1, 0] rfl)
end
section
theorem zN_raw {n : Nat} (h : n < 1000) {L : Int32} (hL : L = nI (n + 1)) : (120 - (L - L / 64 * 64)) - (120 - (L - L / 64 * 64)) / 64 * 64 = nI (zN n) := by
  subst hL
  have h1 : nI (n + 1) - nI (n + 1) / 64 * 64 = nI ((n + 1) % 64) := pk_rem (d := 64) (by omega) (by omega) (by omega)
  rw [h1]
  have h2 : 120 - nI ((n + 1) % 64) = nI (120 - (n + 1) % 64) := pk_sub (a := 120) (by omega)
  rw [h2]
  exact pk_rem (d := 64) (by omega) (by omega) (by omega)
theorem zN_lt (n : Nat) : zN n < 64 := by unfold zN; omega
theorem nI_8 {n : Nat} {x : Int32} (e : x = 8 * nI n) : x = nI (8 * n) := by rw [e]; exact pk_mul 8 n
theorem pad_eq {l0 : List Int32} {x : Int32} (e : x = nI (8 * l0.length)) : (((l0 ++ [128]) ++ List.replicate (zN l0.length) 0) ++ w4 0) ++ w4 x = padL l0 := by subst e; rfl
theorem cpy8 {V V1 : Vt} (e : va_up V 5 (va_cpy (fun j => sqT.getD j 0) (V 5) 0 0 8) = V1) : (∀ i, i < 8 → V1 5 i = sqT.getD i 0) ∧ ∀ j, j ≠ 5 → V1 j = V j := by
  subst e
  refine ⟨fun i hi => ?_, fun j hj => by simp [va_up, hj]⟩
  simp only [va_up, if_true]
  rw [pk_cpy_in (by omega) (by omega)]
  simp
theorem flat_s (f : Nat → List Int32) (j : Nat) : (List.range (j + 1)).flatMap f = (List.range j).flatMap f ++ f j := by
  rw [List.range_succ, List.flatMap_append]; simp
theorem flat_len (g : Nat → Int32) (j : Nat) : ((List.range j).flatMap (fun i => w4 (g i))).length = 4 * j := by
  induction j with
  | zero => rfl
  | succ j ih => rw [flat_s, List.length_append, ih, w4_len]; omega
/-- a block has been mixed in -/
theorem block_step {Va Vb Vc : Vt} {l0 : List Int32} {n : Nat} (h7 : rowIs Va 7 (padL l0)) (hn : 64 * n + 64 ≤ (padL l0).length) (hst : ∀ i, i < 8 → Va 5 i = shaH (fL (padL l0)) n i) (hb : (∀ t, t < 64 → Vb 6 t = sched (be32 (Va 8) (64 * n)) 48 t) ∧ ∀ j, j ≠ 6 → Vb j = Va j) (hc : (∀ i, i < 8 → Vc 5 i = Vb 5 i + rnds (Vb 6) (Vb 5) 64 i) ∧ ∀ j, j ≠ 5 → Vc j = Vb j) : (∀ i, i < 8 → Vc 5 i = shaH (fL (padL l0)) (n + 1) i) ∧ ∀ j, j ≠ 5 → j ≠ 6 → Vc j = Va j := by
  refine ⟨fun i hi => ?_, fun j h5 h6 => (hc.2 j h5).trans (hb.2 j h6)⟩
  have h5 : Vb 5 = Va 5 := hb.2 5 (by decide)
  rw [hc.1 i hi, h5]
  show _ = shaB _ _ i
  unfold shaB
  rw [hst i hi, rnds_congr (s' := shaH (fL (padL l0)) n) hst 64 (w' := sched (be32 (fL (padL l0)) (64 * n)) 48) (fun t ht => ?_) i hi]
  rw [hb.1 t ht]
  refine sched_congr (fun u hu => ?_) 48 t (by omega)
  have hv : ∀ z, z < (padL l0).length → Va 8 z = fL (padL l0) z := fun z hz => h7.2 z hz
  unfold be32
  rw [hv _ (by omega), hv _ (by omega), hv _ (by omega), hv _ (by omega)]
/-- bytes by bytes -/
def xorL (a b : List Int32) : List Int32 := List.zipWith (fun x y => x ^^^ y) a b
theorem xorL_len {a b : List Int32} (h : a.length = b.length) : (xorL a b).length = a.length := by simp [xorL, h]
/-- j bytes of a are turned -/
def xorJ (a b : List Int32) (j : Nat) : List Int32 := xorL (a.take j) (b.take j) ++ a.drop j
theorem xorJ_len {a b : List Int32} (h : a.length = b.length) (j : Nat) : (xorJ a b j).length = a.length := by
  simp [xorJ, xorL, h]; omega
theorem xorJ_s {a b : List Int32} (h : a.length = b.length) {j : Nat} (hj : j < a.length) : (xorJ a b j).set j ((xorJ a b j).getD j 0 ^^^ b.getD j 0) = xorJ a b (j + 1) := by
  apply List.ext_getElem?
  intro i
  have hl := xorJ_len h j
  have hv : (xorJ a b j).getD j 0 = a.getD j 0 := by
    rw [List.getD_eq_getElem?_getD, List.getD_eq_getElem?_getD]
    simp only [xorJ, xorL]
    rw [List.getElem?_append_right (by simp; omega)]
    simp only [List.getElem?_drop, List.length_zipWith, List.length_take]
    congr 2
    omega
  rw [hv, List.getElem?_set, hl]
  by_cases e : j = i
  · subst e
    simp only [if_true, hj, xorJ, xorL]
    rw [List.getElem?_append_left (by simp; omega)]
    simp [List.getElem?_zipWith, List.getElem?_take, List.getD_eq_getElem?_getD, List.getElem?_eq_getElem hj, List.getElem?_eq_getElem (show j < b.length by omega)]
  · simp only [e, if_false, xorJ, xorL]
    by_cases hi : i < j
    · rw [List.getElem?_append_left (by simp; omega), List.getElem?_append_left (by simp; omega)]
      simp [List.getElem?_zipWith, List.getElem?_take, hi, show i < j + 1 by omega]
    · rw [List.getElem?_append_right (by simp; omega), List.getElem?_append_right (by simp; omega)]
      simp only [List.getElem?_drop, List.length_zipWith, List.length_take]
      congr 1
      omega
theorem xorJ_0 (a b : List Int32) : xorJ a b 0 = a := by simp [xorJ, xorL]
theorem xorJ_all {a b : List Int32} (h : a.length = b.length) : xorJ a b a.length = xorL a b := by
  simp [xorJ]
  rw [List.take_of_length_le (by omega)]
theorem rem64 {n : Nat} (h : n < 100000) {L : Int32} (hL : L = nI n) : L - L / 64 * 64 = nI (n % 64) := by
  subst hL; exact pk_rem (d := 64) (by omega) (by omega) (by omega)
theorem sub120 {n : Nat} (h : n ≤ 120) : 120 - nI n = nI (120 - n) := pk_sub (a := 120) h
theorem sha_def (l : List Int32) : (List.range 8).flatMap (fun i => w4 (shaH (fL (padL l)) ((padL l).length / 64) i)) = sha l := rfl
end
section
/-- a limit: its text at b + 1, its lock at b + 3 -/
def isLim (b : Nat) : Prop := b + 4 < 610 ∧ sk b = 1 ∧ sn b = 2 ∧ sf b 0 = some (b + 1) ∧ sf b 1 = some (b + 3) ∧ isRow (b + 1) 60 ∧ isRow (b + 3) 32
theorem isLim.lt {b : Nat} (h : isLim b) : b < 610 := by have := h.1; omega
theorem isLim.k {b : Nat} (h : isLim b) : sk b = 1 := h.2.1
theorem isLim.n {b : Nat} (h : isLim b) : sn b = 2 := h.2.2.1
theorem isLim.f0 {b : Nat} (h : isLim b) : sf b 0 = some (b + 1) := h.2.2.2.1
theorem isLim.f1 {b : Nat} (h : isLim b) : sf b 1 = some (b + 3) := h.2.2.2.2.1
theorem isLim.text {b : Nat} (h : isLim b) : isRow (b + 1) 60 := h.2.2.2.2.2.1
theorem isLim.lock {b : Nat} (h : isLim b) : isRow (b + 3) 32 := h.2.2.2.2.2.2
set_option maxHeartbeats 4000000 in
set_option maxRecDepth 100000 in
theorem c_X4_hashWork (l : Launch) {E : En} {V : Vt} {k cap : Nat} (hk : isRow k cap) (hc32 : 32 ≤ cap) (hk7 : k ≠ 7) {l0 : List Int32} (h7 : rowIs V 7 l0) (hl0 : l0.length ≤ 247) : CV l yX4_hashWork wsX4_hashWork 2 E V [.ref (E.1 + 4), .ref (E.1 + k)] (fun V' => rowIs V' k (sha l0) ∧ frB V V' 5 8 k) := by
  refine Met.ofW (cc := cX4_hashWork) (maxL := 4) (ret := none) (by decide) rfl ?_
  intro p e s m args below meth c s₁ B hml hv
  obtain ⟨rfl, hM, hK⟩ := hv
  have hx := B.exec
  have hb := B.bytes
  have hret := B.returns
  have hts := atoms_spec (ws := wsX4_hashWork) B.pre
  have hown : s.vm.findClass RX4 = some m.cls := findClass_of_methodNamed B.named
  have hlocks := B.notSynchronized
  have hsz : s.heap.size = E.1 + 610 := hM.1
  have hS : va_S (AE E) s.heap s.heap [] := va_S.rf
  have in3 : ∀ w ∈ u_ws RX3 TX3 2, w ∈ wsX4_hashWork := by decide +kernel
  have in4 : ∀ w ∈ u_ws RX4 TX4 9, w ∈ wsX4_hashWork := by decide +kernel
  have k23 := hts (.fieldLink RX4 23 "LimitTokens$Sealer" "work" "LLimitTokens$Row;") (by decide +kernel)
  have k55 := hts (.fieldLink RX4 55 "LimitTokens$Row" "length" "I") (by decide +kernel)
  have k11 := hts (.fieldLink RX4 11 "LimitTokens$Sealer" "state" "[I") (by decide +kernel)
  have hl := lv_entry ([.ref (E.1 + 4), .ref (E.1 + k)]) (n := 4) (Nat.le_of_ble_eq_true rfl)
  rw [lg_entry_eq]
  generalize (lg_sl ([.ref (E.1 + 4), .ref (E.1 + k)]) ++ List.replicate (4 - (lg_sl ([.ref (E.1 + 4), .ref (E.1 + k)])).length) Slot.unset).toArray = ls at hl ⊢
  have hl : lv_has ls 4 [(0, .ref (E.1 + 4)), (1, .ref (E.1 + k))] := hl
  obtain ⟨t1, t2, hZ1, hT1, hZ2, hT2⟩ := id hK.2
  have hwh := hk.where
  have hcap := hk.cap
  have hz64 := zN_lt l0.length
  have hpl := padL_len l0
  have hpm := padL_mod l0
  refine lv_bipush (v := 8) hx hb dX4_hashWork_0 (by decide) ?_
  refine lv_aload_n hx hb dX4_hashWork_2 rfl (lv_at hl 0 rfl) ?_
  refine w_gr 4 2 7 (T := TX4) (N := 9) hx hb hts in4 hown hK.1 hM (by decide) (by decide) (by decide) (by decide) (by decide) rfl (by decide) k23 rfl dX4_hashWork_3 ?_
  refine w_gi 3 1 (T := TX3) (N := 2) hx hb hts in3 hown hK.1 hM (by decide) (by decide) (by decide) (by decide) (by decide) rfl (by decide) k55 rfl dX4_hashWork_6 ?_
  have q : (V 7 1 : Int32) = nI l0.length := h7.1
  refine lv_eqi q ?_
  refine lv_imul hx hb dX4_hashWork_9 ?_
  refine lv_topi (fun x2_10 ex2_10 => ?_)
  refine lv_istore_n (lv' := [(2, .int x2_10), (0, .ref (E.1 + 4)), (1, .ref (E.1 + k))]) hx hb dX4_hashWork_10 rfl hl (by decide) rfl (fun ls hl => ?_)
  refine lv_aload_n hx hb dX4_hashWork_11 rfl (lv_at hl 1 rfl) ?_
  refine w_gr 4 2 7 (T := TX4) (N := 9) hx hb hts in4 hown hK.1 hM (by decide) (by decide) (by decide) (by decide) (by decide) rfl (by decide) k23 rfl dX4_hashWork_12 ?_
  refine lv_sipush (v := 128) hx hb dX4_hashWork_15 (by decide) ?_
  refine w_cVv (C := RX3) (As := [.int 128]) (rest := []) ⟨hx, hb, hml, hown, hts⟩ (c_X3_push l rw7 h7 (by omega) 128) (cwV 1 hts gX4_hashWork_X3_push rfl rfl rfl (by decide +kernel) ⟨Nat.le_of_ble_eq_true rfl, Nat.le_of_ble_eq_true rfl⟩) (w_recv (ci := 3) hK hM (by decide) (by decide) (by decide) rfl) hM hK hS rfl hl.1 rfl (lv_room (Nat.le_of_ble_eq_true rfl)) dX4_hashWork_18 ⟨Nat.le_of_ble_eq_true rfl, Nat.le_of_ble_eq_true rfl⟩ (fun V18 H locs hp18 hM hS => ?_)
  refine lv_aload_n hx hb dX4_hashWork_21 rfl (lv_at hl 1 rfl) ?_
  refine w_gr 4 2 7 (T := TX4) (N := 9) hx hb hts in4 hown hK.1 hM (by decide) (by decide) (by decide) (by decide) (by decide) rfl (by decide) k23 rfl dX4_hashWork_22 ?_
  refine lv_bipush (v := 120) hx hb dX4_hashWork_25 (by decide) ?_
  refine lv_aload_n hx hb dX4_hashWork_27 rfl (lv_at hl 1 rfl) ?_
  refine w_gr 4 2 7 (T := TX4) (N := 9) hx hb hts in4 hown hK.1 hM (by decide) (by decide) (by decide) (by decide) (by decide) rfl (by decide) k23 rfl dX4_hashWork_28 ?_
  refine w_gi 3 1 (T := TX3) (N := 2) hx hb hts in3 hown hK.1 hM (by decide) (by decide) (by decide) (by decide) (by decide) rfl (by decide) k55 rfl dX4_hashWork_31 ?_
  have q_6 : (V18 7 1 : Int32) = nI (l0 ++ [128]).length := hp18.1.1
  refine lv_eqi q_6 ?_
  refine lv_bipush (v := 64) hx hb dX4_hashWork_34 (by decide) ?_
  refine lv_irem hx hb dX4_hashWork_36 (by decide) ?_
  have q_7 : ((nI (l0 ++ [128]).length) - (nI (l0 ++ [128]).length) / 64 * 64 : Int32) = nI ((l0.length + 1) % 64) := rem64 (by omega) (by simp)
  refine lv_eqi q_7 ?_
  refine lv_isub hx hb dX4_hashWork_37 ?_
  have q_8 : (120 - (nI ((l0.length + 1) % 64)) : Int32) = nI (120 - (l0.length + 1) % 64) := sub120 (by omega)
  refine lv_eqi q_8 ?_
  refine lv_bipush (v := 64) hx hb dX4_hashWork_38 (by decide) ?_
  refine lv_irem hx hb dX4_hashWork_40 (by decide) ?_
  have q_9 : ((nI (120 - (l0.length + 1) % 64)) - (nI (120 - (l0.length + 1) % 64)) / 64 * 64 : Int32) = nI (zN l0.length) := rem64 (n := 120 - (l0.length + 1) % 64) (by omega) rfl
  refine lv_eqi q_9 ?_
  refine w_cVv (C := RX3) (As := [.int (nI (zN l0.length))]) (rest := []) ⟨hx, hb, hml, hown, hts⟩ (c_X3_pushZeros l rw7 hp18.1 (n := zN l0.length) (by simp; omega)) (cwV 1 hts gX4_hashWork_X3_pushZeros rfl rfl rfl (by decide +kernel) ⟨Nat.le_of_ble_eq_true rfl, Nat.le_of_ble_eq_true rfl⟩) (w_recv (ci := 3) hK hM (by decide) (by decide) (by decide) rfl) hM hK hS rfl hl.1 rfl (lv_room (Nat.le_of_ble_eq_true rfl)) dX4_hashWork_41 ⟨Nat.le_of_ble_eq_true rfl, Nat.le_of_ble_eq_true rfl⟩ (fun V41 H locs hp41 hM hS => ?_)
  refine lv_aload_n hx hb dX4_hashWork_44 rfl (lv_at hl 1 rfl) ?_
  refine w_gr 4 2 7 (T := TX4) (N := 9) hx hb hts in4 hown hK.1 hM (by decide) (by decide) (by decide) (by decide) (by decide) rfl (by decide) k23 rfl dX4_hashWork_45 ?_
  refine lv_iconst (v := 0) hx hb dX4_hashWork_48 (by decide) ?_
  refine w_cVv (C := RX3) (As := [.int 0]) (rest := []) ⟨hx, hb, hml, hown, hts⟩ (c_X3_pushWord l rw7 hp41.1 (by simp; omega) 0) (cwV 1 hts gX4_hashWork_X3_pushWord rfl rfl rfl (by decide +kernel) ⟨Nat.le_of_ble_eq_true rfl, Nat.le_of_ble_eq_true rfl⟩) (w_recv (ci := 3) hK hM (by decide) (by decide) (by decide) rfl) hM hK hS rfl hl.1 rfl (lv_room (Nat.le_of_ble_eq_true rfl)) dX4_hashWork_49 ⟨Nat.le_of_ble_eq_true rfl, Nat.le_of_ble_eq_true rfl⟩ (fun V49 H locs hp49 hM hS => ?_)
  refine lv_aload_n hx hb dX4_hashWork_52 rfl (lv_at hl 1 rfl) ?_
  refine w_gr 4 2 7 (T := TX4) (N := 9) hx hb hts in4 hown hK.1 hM (by decide) (by decide) (by decide) (by decide) (by decide) rfl (by decide) k23 rfl dX4_hashWork_53 ?_
  refine lv_iload_n hx hb dX4_hashWork_56 rfl (lv_at hl 0 rfl) ?_
  refine w_cVv (C := RX3) (As := [.int x2_10]) (rest := []) ⟨hx, hb, hml, hown, hts⟩ (c_X3_pushWord l rw7 hp49.1 (by simp [w4_len]; omega) x2_10) (cwV 1 hts gX4_hashWork_X3_pushWord rfl rfl rfl (by decide +kernel) ⟨Nat.le_of_ble_eq_true rfl, Nat.le_of_ble_eq_true rfl⟩) (w_recv (ci := 3) hK hM (by decide) (by decide) (by decide) rfl) hM hK hS rfl hl.1 rfl (lv_room (Nat.le_of_ble_eq_true rfl)) dX4_hashWork_57 ⟨Nat.le_of_ble_eq_true rfl, Nat.le_of_ble_eq_true rfl⟩ (fun V57 H locs hp57 hM hS => ?_)
  have h7p : rowIs V57 7 (padL l0) := by have := hp57.1; rw [pad_eq (nI_8 ex2_10)] at this; exact this
  have hf57 : frR V V57 7 := ((hp18.2.trans hp41.2).trans hp49.2).trans hp57.2
  refine va_gets hx hb hZ1 hS hown (hts (.fieldLink RX4 94 "LimitTokens$Sealer" "SQUARE_ROOTS" "[I") (by decide +kernel)) (fun _ h => h) dX4_hashWork_60 ?_
  refine lv_iconst (v := 0) hx hb dX4_hashWork_63 (by decide) ?_
  refine lv_aload_n hx hb dX4_hashWork_64 rfl (lv_at hl 1 rfl) ?_
  refine w_gr 4 0 5 (T := TX4) (N := 9) hx hb hts in4 hown hK.1 hM (by decide) (by decide) (by decide) (by decide) (by decide) rfl (by decide) k11 rfl dX4_hashWork_65 ?_
  refine lv_iconst (v := 0) hx hb dX4_hashWork_68 (by decide) ?_
  refine lv_bipush (v := 8) hx hb dX4_hashWork_69 (by decide) ?_
  refine w_cpyT hx hb (hml.trans hl.1.symm) hown (hts (.methodLink RX4 97 arraycopyName) (by decide +kernel)) (hts (.native arraycopyName) (by decide +kernel)) (hts (.static arraycopyName) (by decide +kernel)) (hts (.initialized "java/lang/System") (by decide +kernel)) hK hM hS hT1 (k1 := 5) (n1 := 8) (by decide) (by decide) (by decide) (by decide) (by decide) (by decide) (by decide) (by decide) (Nat.le_of_ble_eq_true rfl) (Nat.le_of_ble_eq_true rfl) dX4_hashWork_71 (fun H locs hM hS => ?_)
  rw [show (0 : Int32).toNatClampNeg = 0 by decide, show (8 : Int32).toNatClampNeg = 8 by decide] at hM
  generalize hV71 : va_up V57 5 (va_cpy (fun j => sqT.getD j 0) (V57 5) 0 0 8) = V71 at hM
  obtain ⟨hs71, hf71⟩ := cpy8 hV71
  refine lv_iconst (v := 0) hx hb dX4_hashWork_74 (by decide) ?_
  refine lv_istore_n (lv' := [(3, .int 0), (2, .int x2_10), (0, .ref (E.1 + 4)), (1, .ref (E.1 + k))]) hx hb dX4_hashWork_75 rfl hl (by decide) rfl (fun ls hl => ?_)
  have loop76 : ∀ (fu : Nat) (Vw : Vt) (H : Heap) (locs : List Loc) (ls : Array Slot) (n : Nat) (x : Int32) (ex : x = nI (64 * n)) (hn : 64 * n ≤ (padL l0).length) (hst : ∀ i, i < 8 → Vw 5 i = shaH (fL (padL l0)) n i) (hf : ∀ j, j ≠ 5 → j ≠ 6 → Vw j = V57 j), (padL l0).length - 64 * n < fu → Wd E Vw H → va_S (AE E) s.heap H locs → lv_has ls 4 [(0, .ref (E.1 + 4)), (1, .ref (E.1 + k)), (3, .int x)] → W p l e (headSpec wsX4_hashWork (rmD 2)).room s m ([.ref (E.1 + 4), .ref (E.1 + k)] : List Value).toArray below meth c H locs 0 0 (MQ below (QV E (fun V' => Wd E V') (fun V' => rowIs V' k (sha l0) ∧ frB V V' 5 8 k)) ([.ref (E.1 + 4), .ref (E.1 + k)] : List Value).toArray s 0 0 (AE E)) (F0 m 76 ls []) := by
    intro fu
    induction fu with
    | zero => intros; omega
    | succ fu ih =>
      intro Vw H locs ls n x ex hn hst hf hfu hM hS hl
      have h7w : rowIs Vw 7 (padL l0) := h7p.keep (hf 7 (by decide) (by decide)) (hf 8 (by decide) (by decide))
      refine lv_iload_n hx hb dX4_hashWork_76 rfl (lv_at hl 2 rfl) ?_
      refine lv_bipush (v := 64) hx hb dX4_hashWork_77 (by decide) ?_
      refine lv_iadd hx hb dX4_hashWork_79 ?_
      refine lv_aload_n hx hb dX4_hashWork_80 rfl (lv_at hl 0 rfl) ?_
      refine w_gr 4 2 7 (T := TX4) (N := 9) hx hb hts in4 hown hK.1 hM (by decide) (by decide) (by decide) (by decide) (by decide) rfl (by decide) k23 rfl dX4_hashWork_81 ?_
      refine w_gi 3 1 (T := TX3) (N := 2) hx hb hts in3 hown hK.1 hM (by decide) (by decide) (by decide) (by decide) (by decide) rfl (by decide) k55 rfl dX4_hashWork_84 ?_
      have q_20 : (Vw 7 1 : Int32) = nI (padL l0).length := h7w.1
      refine lv_eqi q_20 ?_
      refine lv_icmp_gt (tgt := 105) hx hb dX4_hashWork_87 (by decide) (fun c_87 => ?_) (fun c_87 => ?_)
      · have hnN : n = (padL l0).length / 64 := by
          have e64 : x + 64 = nI (64 * n + 64) := by rw [ex]; exact nI_add _ 64
          rw [e64] at c_87
          have := (nI_ltI (by omega) (by omega)).mp c_87
          omega
        refine lv_aload_n hx hb dX4_hashWork_105 rfl (lv_at hl 1 rfl) ?_
        refine w_cVv (C := RX3) (As := []) (rest := []) ⟨hx, hb, hml, hown, hts⟩ (c_X3_makeEmpty l hk) (cwV 0 hts gX4_hashWork_X3_makeEmpty rfl rfl rfl (by decide +kernel) ⟨Nat.le_of_ble_eq_true rfl, Nat.le_of_ble_eq_true rfl⟩) (w_recv (ci := 3) hK hM (hk).lt (hk).k (by decide) rfl) hM hK hS rfl hl.1 rfl (lv_room (Nat.le_of_ble_eq_true rfl)) dX4_hashWork_106 ⟨Nat.le_of_ble_eq_true rfl, Nat.le_of_ble_eq_true rfl⟩ (fun V106 H locs hp106 hM hS => ?_)
        refine lv_iconst (v := 0) hx hb dX4_hashWork_109 (by decide) ?_
        refine lv_istore_n (lv' := [(3, .int 0), (0, .ref (E.1 + 4)), (1, .ref (E.1 + k))]) hx hb dX4_hashWork_110 rfl hl (by decide) rfl (fun ls hl => ?_)
        have loop111 : ∀ (fu : Nat) (Vz : Vt) (H : Heap) (locs : List Loc) (ls : Array Slot) (j : Nat) (z : Int32) (ez : z = nI j) (hj : j ≤ 8) (hr : rowIs Vz k ((List.range j).flatMap (fun i => w4 (shaH (fL (padL l0)) n i)))) (hfz : frR V106 Vz k), 8 - j < fu → Wd E Vz H → va_S (AE E) s.heap H locs → lv_has ls 4 [(0, .ref (E.1 + 4)), (1, .ref (E.1 + k)), (3, .int z)] → W p l e (headSpec wsX4_hashWork (rmD 2)).room s m ([.ref (E.1 + 4), .ref (E.1 + k)] : List Value).toArray below meth c H locs 0 0 (MQ below (QV E (fun V' => Wd E V') (fun V' => rowIs V' k (sha l0) ∧ frB V V' 5 8 k)) ([.ref (E.1 + 4), .ref (E.1 + k)] : List Value).toArray s 0 0 (AE E)) (F0 m 111 ls []) := by
          intro fu
          induction fu with
          | zero => intros; omega
          | succ fu ih =>
            intro Vz H locs ls j z ez hj hr hfz hfu hM hS hl
            refine lv_iload_n hx hb dX4_hashWork_111 rfl (lv_at hl 2 rfl) ?_
            refine lv_bipush (v := 8) hx hb dX4_hashWork_112 (by decide) ?_
            refine lv_icmp_ge (tgt := 133) hx hb dX4_hashWork_114 (by decide) (fun c_114 => ?_) (fun c_114 => ?_)
            · exact w_vret (free := AE E) Vz hx hb hret hK hS hM (by have := nI_lei (a := 8) ez c_114 (by omega) (by omega); have h8 : j = 8 := (by omega); subst h8; rw [hnN, sha_def] at hr; exact ⟨hr, fun j a b c => by rw [hfz j b c, hp106.2 j b c, hf j (by omega) (by omega)]; exact hf57 j (by omega) (by omega)⟩) hlocks dX4_hashWork_133
            · have hlt := nI_ltn (a := 8) ez c_114 (by omega) (by omega)
              refine lv_aload_n hx hb dX4_hashWork_117 rfl (lv_at hl 1 rfl) ?_
              refine lv_aload_n hx hb dX4_hashWork_118 rfl (lv_at hl 0 rfl) ?_
              refine w_gr 4 0 5 (T := TX4) (N := 9) hx hb hts in4 hown hK.1 hM (by decide) (by decide) (by decide) (by decide) (by decide) rfl (by decide) k11 rfl dX4_hashWork_119 ?_
              refine lv_iload_n hx hb dX4_hashWork_122 rfl (lv_at hl 2 rfl) ?_
              refine w_ild (N := 8) hx hb hK.1 hM (by decide) (by decide) (by decide) (by rw [ez]; exact vp_in_nI (by omega) (by omega)) dX4_hashWork_123 ?_
              have q_26 : (Vz 5 z.toNatClampNeg : Int32) = shaH (fL (padL l0)) n j := by rw [ez, nI_clamp (by omega), hfz 5 (by omega) (by omega), hp106.2 5 (by omega) (by omega)]; exact hst j (by omega)
              refine lv_eqi q_26 ?_
              refine w_cVv (C := RX3) (As := [.int (shaH (fL (padL l0)) n j)]) (rest := []) ⟨hx, hb, hml, hown, hts⟩ (c_X3_pushWord l hk hr (by rw [flat_len]; omega) (shaH (fL (padL l0)) n j)) (cwV 1 hts gX4_hashWork_X3_pushWord rfl rfl rfl (by decide +kernel) ⟨Nat.le_of_ble_eq_true rfl, Nat.le_of_ble_eq_true rfl⟩) (w_recv (ci := 3) hK hM (hk).lt (hk).k (by decide) rfl) hM hK hS rfl hl.1 rfl (lv_room (Nat.le_of_ble_eq_true rfl)) dX4_hashWork_124 ⟨Nat.le_of_ble_eq_true rfl, Nat.le_of_ble_eq_true rfl⟩ (fun V124 H locs hp124 hM hS => ?_)
              obtain ⟨x3_127, ex3_127⟩ : ∃ y : Int32, y = z + 1 := ⟨_, rfl⟩
              refine lv_iinc (v := x3_127) (lv' := [(3, .int x3_127), (0, .ref (E.1 + 4)), (1, .ref (E.1 + k))]) hx hb dX4_hashWork_127 hl (k := 2) rfl (by rw [ex3_127]; rfl) (by decide) rfl (fun ls hl => ?_)
              refine lv_goto (tgt := 111) hx hb dX4_hashWork_130 (by decide) ?_
              exact ih V124 _ _ _ (j + 1) _ (by rw [ex3_127, ez, nI_1]) (by omega) (by rw [flat_s]; exact hp124.1) (hfz.trans hp124.2) (by omega) hM hS (lv_sub hl [1, 2, 0] rfl)
        exact loop111 _ V106 _ _ _ 0 0 (rfl) (Nat.zero_le _) (hp106.1) (frR.rf) (Nat.lt_succ_self _) hM hS (lv_sub hl [1, 2, 0] rfl)
      · have hle : 64 * n + 64 ≤ (padL l0).length := by
          have e64 : x + 64 = nI (64 * n + 64) := by rw [ex]; exact nI_add _ 64
          rw [e64] at c_87
          exact Nat.not_lt.mp (fun q => c_87 (nI_lt q (by omega)))
        refine lv_aload_n hx hb dX4_hashWork_90 rfl (lv_at hl 0 rfl) ?_
        refine lv_iload_n hx hb dX4_hashWork_91 rfl (lv_at hl 2 rfl) ?_
        have q_31 : (x : Int32) = nI (64 * n) := ex
        refine lv_eqi q_31 ?_
        refine w_cVv (C := RX4) (As := [.int (nI (64 * n))]) (rest := []) ⟨hx, hb, hml, hown, hts⟩ (c_X4_spreadWords l (a := 64 * n) (by omega)) (cwV 1 hts gX4_hashWork_X4_spreadWords rfl rfl rfl (by decide +kernel) ⟨Nat.le_of_ble_eq_true rfl, Nat.le_of_ble_eq_true rfl⟩) (w_recv (ci := 4) hK hM (by decide) (by decide) (by decide) rfl) hM hK hS rfl hl.1 rfl (lv_room (Nat.le_of_ble_eq_true rfl)) dX4_hashWork_92 ⟨Nat.le_of_ble_eq_true rfl, Nat.le_of_ble_eq_true rfl⟩ (fun V92 H locs hp92 hM hS => ?_)
        refine lv_aload_n hx hb dX4_hashWork_95 rfl (lv_at hl 0 rfl) ?_
        refine w_cVv (C := RX4) (As := []) (rest := []) ⟨hx, hb, hml, hown, hts⟩ (c_X4_mixWords l) (cwV 0 hts gX4_hashWork_X4_mixWords rfl rfl rfl (by decide +kernel) ⟨Nat.le_of_ble_eq_true rfl, Nat.le_of_ble_eq_true rfl⟩) (w_recv (ci := 4) hK hM (by decide) (by decide) (by decide) rfl) hM hK hS rfl hl.1 rfl (lv_room (Nat.le_of_ble_eq_true rfl)) dX4_hashWork_96 ⟨Nat.le_of_ble_eq_true rfl, Nat.le_of_ble_eq_true rfl⟩ (fun V96 H locs hp96 hM hS => ?_)
        obtain ⟨hst2, hf2⟩ := block_step h7w hle hst hp92 hp96
        obtain ⟨x3_99, ex3_99⟩ : ∃ y : Int32, y = x + 64 := ⟨_, rfl⟩
        refine lv_iinc (v := x3_99) (lv' := [(3, .int x3_99), (0, .ref (E.1 + 4)), (1, .ref (E.1 + k))]) hx hb dX4_hashWork_99 hl (k := 2) rfl (by rw [ex3_99]; rfl) (by decide) rfl (fun ls hl => ?_)
        refine lv_goto (tgt := 76) hx hb dX4_hashWork_102 (by decide) ?_
        exact ih V96 _ _ _ (n + 1) _ (by rw [ex3_99, ex]; exact nI_add _ 64) (by omega) hst2 (fun j h5 h6 => (hf2 j h5 h6).trans (hf j h5 h6)) (by omega) hM hS (lv_sub hl [1, 2, 0] rfl)
  exact loop76 _ V71 _ _ _ 0 0 (rfl) (Nat.zero_le _) (hs71) (fun j h5 _ => hf71 j h5) (Nat.lt_succ_self _) hM hS (lv_sub hl [2, 3, 0] rfl)

set_option maxHeartbeats 4000000 in
set_option maxRecDepth 100000 in
theorem c_X4_hashInto (l : Launch) {E : En} {V : Vt} {k cap k2 cap2 : Nat} (hk : isRow k cap) (hc32 : 32 ≤ cap) (h12 : 12 < k) (hk2 : isRow k2 cap2) {l2 : List Int32} (hr2 : rowIs V k2 l2) (h2l : l2.length ≤ cap2) (hl2 : l2.length ≤ 247) : CV l yX4_hashInto wsX4_hashInto 3 E V [.ref (E.1 + 4), .ref (E.1 + k), .ref (E.1 + k2)] (fun V' => rowIs V' k (sha l2) ∧ frB V V' 5 12 k) := by
  refine Met.ofW (cc := cX4_hashInto) (maxL := 3) (ret := none) (by decide) rfl ?_
  intro p e s m args below meth c s₁ B hml hv
  obtain ⟨rfl, hM, hK⟩ := hv
  have hx := B.exec
  have hb := B.bytes
  have hret := B.returns
  have hts := atoms_spec (ws := wsX4_hashInto) B.pre
  have hown : s.vm.findClass RX4 = some m.cls := findClass_of_methodNamed B.named
  have hlocks := B.notSynchronized
  have hsz : s.heap.size = E.1 + 610 := hM.1
  have hS : va_S (AE E) s.heap s.heap [] := va_S.rf
  have in4 : ∀ w ∈ u_ws RX4 TX4 9, w ∈ wsX4_hashInto := by decide +kernel
  have k23 := hts (.fieldLink RX4 23 "LimitTokens$Sealer" "work" "LLimitTokens$Row;") (by decide +kernel)
  have hl := lv_entry ([.ref (E.1 + 4), .ref (E.1 + k), .ref (E.1 + k2)]) (n := 3) (Nat.le_of_ble_eq_true rfl)
  rw [lg_entry_eq]
  generalize (lg_sl ([.ref (E.1 + 4), .ref (E.1 + k), .ref (E.1 + k2)]) ++ List.replicate (3 - (lg_sl ([.ref (E.1 + 4), .ref (E.1 + k), .ref (E.1 + k2)])).length) Slot.unset).toArray = ls at hl ⊢
  have hl : lv_has ls 3 [(0, .ref (E.1 + 4)), (1, .ref (E.1 + k)), (2, .ref (E.1 + k2))] := hl
  refine lv_aload_n hx hb dX4_hashInto_0 rfl (lv_at hl 0 rfl) ?_
  refine w_gr 4 2 7 (T := TX4) (N := 9) hx hb hts in4 hown hK.1 hM (by decide) (by decide) (by decide) (by decide) (by decide) rfl (by decide) k23 rfl dX4_hashInto_1 ?_
  refine lv_aload_n hx hb dX4_hashInto_4 rfl (lv_at hl 2 rfl) ?_
  refine w_cVv (C := RX3) (As := [.ref (E.1 + k2)]) (rest := []) ⟨hx, hb, hml, hown, hts⟩ (c_X3_takeOver l rw7 hk2 hr2 h2l (by omega)) (cwV 1 hts gX4_hashInto_X3_takeOver rfl rfl rfl (by decide +kernel) ⟨Nat.le_of_ble_eq_true rfl, Nat.le_of_ble_eq_true rfl⟩) (w_recv (ci := 3) hK hM (by decide) (by decide) (by decide) rfl) hM hK hS rfl hl.1 rfl (lv_room (Nat.le_of_ble_eq_true rfl)) dX4_hashInto_5 ⟨Nat.le_of_ble_eq_true rfl, Nat.le_of_ble_eq_true rfl⟩ (fun V5 H locs hp5 hM hS => ?_)
  refine lv_aload_n hx hb dX4_hashInto_8 rfl (lv_at hl 0 rfl) ?_
  refine lv_aload_n hx hb dX4_hashInto_9 rfl (lv_at hl 1 rfl) ?_
  refine w_cVv (C := RX4) (As := [.ref (E.1 + k)]) (rest := []) ⟨hx, hb, hml, hown, hts⟩ (c_X4_hashWork l hk hc32 (by omega) hp5.1 hl2) (cwV 1 hts gX4_hashInto_X4_hashWork rfl rfl rfl (by decide +kernel) ⟨Nat.le_of_ble_eq_true rfl, Nat.le_of_ble_eq_true rfl⟩) (w_recv (ci := 4) hK hM (by decide) (by decide) (by decide) rfl) hM hK hS rfl hl.1 rfl (lv_room (Nat.le_of_ble_eq_true rfl)) dX4_hashInto_10 ⟨Nat.le_of_ble_eq_true rfl, Nat.le_of_ble_eq_true rfl⟩ (fun V10 H locs hp10 hM hS => ?_)
  exact w_vret (free := AE E) V10 hx hb hret hK hS hM (⟨hp10.1, (hp5.2.toB (by omega)).trans (hp10.2.wide (by omega) (Or.inl rfl))⟩) hlocks dX4_hashInto_13

set_option maxHeartbeats 4000000 in
set_option maxRecDepth 100000 in
theorem c_X4_sealInto (l : Launch) {E : En} {V : Vt} {k cap k2 cap2 k3 cap3 : Nat} (hk : isRow k cap) (hc32 : 32 ≤ cap) (h12 : 12 < k) (hk2 : isRow k2 cap2) (h212 : 12 < k2) (hk3 : isRow k3 cap3) (h312 : 12 < k3) {lk lm : List Int32} (hr2 : rowIs V k2 lk) (hr3 : rowIs V k3 lm) (h2l : lk.length ≤ cap2) (h3l : lm.length ≤ cap3) (hlk : lk.length ≤ 100) (hlm : lm.length ≤ 100) : CV l yX4_sealInto wsX4_sealInto 3 E V [.ref (E.1 + 4), .ref (E.1 + k), .ref (E.1 + k2), .ref (E.1 + k3)] (fun V' => rowIs V' k (hmac lk lm) ∧ frB V V' 5 12 k) := by
  refine Met.ofW (cc := cX4_sealInto) (maxL := 4) (ret := none) (by decide) rfl ?_
  intro p e s m args below meth c s₁ B hml hv
  obtain ⟨rfl, hM, hK⟩ := hv
  have hx := B.exec
  have hb := B.bytes
  have hret := B.returns
  have hts := atoms_spec (ws := wsX4_sealInto) B.pre
  have hown : s.vm.findClass RX4 = some m.cls := findClass_of_methodNamed B.named
  have hlocks := B.notSynchronized
  have hsz : s.heap.size = E.1 + 610 := hM.1
  have hS : va_S (AE E) s.heap s.heap [] := va_S.rf
  have in3 : ∀ w ∈ u_ws RX3 TX3 2, w ∈ wsX4_sealInto := by decide +kernel
  have in4 : ∀ w ∈ u_ws RX4 TX4 9, w ∈ wsX4_sealInto := by decide +kernel
  have k55 := hts (.fieldLink RX4 55 "LimitTokens$Row" "length" "I") (by decide +kernel)
  have k27 := hts (.fieldLink RX4 27 "LimitTokens$Sealer" "keyBlock" "LLimitTokens$Row;") (by decide +kernel)
  have k23 := hts (.fieldLink RX4 23 "LimitTokens$Sealer" "work" "LLimitTokens$Row;") (by decide +kernel)
  have k30 := hts (.fieldLink RX4 30 "LimitTokens$Sealer" "inner" "LLimitTokens$Row;") (by decide +kernel)
  have hl := lv_entry ([.ref (E.1 + 4), .ref (E.1 + k), .ref (E.1 + k2), .ref (E.1 + k3)]) (n := 4) (Nat.le_of_ble_eq_true rfl)
  rw [lg_entry_eq]
  generalize (lg_sl ([.ref (E.1 + 4), .ref (E.1 + k), .ref (E.1 + k2), .ref (E.1 + k3)]) ++ List.replicate (4 - (lg_sl ([.ref (E.1 + 4), .ref (E.1 + k), .ref (E.1 + k2), .ref (E.1 + k3)])).length) Slot.unset).toArray = ls at hl ⊢
  have hl : lv_has ls 4 [(0, .ref (E.1 + 4)), (1, .ref (E.1 + k)), (2, .ref (E.1 + k2)), (3, .ref (E.1 + k3))] := hl
  have w1 := hk.where
  have w2 := hk2.where
  have w3 := hk3.where
  refine lv_aload_n hx hb dX4_sealInto_0 rfl (lv_at hl 2 rfl) ?_
  refine w_gi 3 1 (T := TX3) (N := 2) hx hb hts in3 hown hK.1 hM (hk2).lt (hk2).k (hk2).n (hk2).f1 (by decide) rfl (by decide) k55 rfl dX4_sealInto_1 ?_
  have q : (V k2 1 : Int32) = nI lk.length := hr2.1
  refine lv_eqi q ?_
  refine lv_bipush (v := 64) hx hb dX4_sealInto_4 (by decide) ?_
  have join36 : ∀ (Vj : Vt) (H : Heap) (locs : List Loc) (ls : Array Slot) (kk : List Int32) (hj9 : rowIs Vj 9 kk) (hkl : kk.length ≤ 64) (ekk : kk ++ List.replicate (64 - kk.length) 0 = kB lk) (hm : rowIs Vj k3 lm) (hfj : frB V Vj 5 12 k), Wd E Vj H → va_S (AE E) s.heap H locs → lv_has ls 4 [(0, .ref (E.1 + 4)), (1, .ref (E.1 + k)), (2, .ref (E.1 + k2)), (3, .ref (E.1 + k3))] → W p l e (headSpec wsX4_sealInto (rmD 3)).room s m ([.ref (E.1 + 4), .ref (E.1 + k), .ref (E.1 + k2), .ref (E.1 + k3)] : List Value).toArray below meth c H locs 0 0 (MQ below (QV E (fun V' => Wd E V') (fun V' => rowIs V' k (hmac lk lm) ∧ frB V V' 5 12 k)) ([.ref (E.1 + 4), .ref (E.1 + k), .ref (E.1 + k2), .ref (E.1 + k3)] : List Value).toArray s 0 0 (AE E)) (F0 m 36 ls []) := by
    intro Vj H locs ls kk hj9 hkl ekk hm hfj hM hS hl
    refine lv_aload_n hx hb dX4_sealInto_36 rfl (lv_at hl 0 rfl) ?_
    refine w_gr 4 3 9 (T := TX4) (N := 9) hx hb hts in4 hown hK.1 hM (by decide) (by decide) (by decide) (by decide) (by decide) rfl (by decide) k27 rfl dX4_sealInto_37 ?_
    refine lv_bipush (v := 64) hx hb dX4_sealInto_40 (by decide) ?_
    refine lv_aload_n hx hb dX4_sealInto_42 rfl (lv_at hl 0 rfl) ?_
    refine w_gr 4 3 9 (T := TX4) (N := 9) hx hb hts in4 hown hK.1 hM (by decide) (by decide) (by decide) (by decide) (by decide) rfl (by decide) k27 rfl dX4_sealInto_43 ?_
    refine w_gi 3 1 (T := TX3) (N := 2) hx hb hts in3 hown hK.1 hM (by decide) (by decide) (by decide) (by decide) (by decide) rfl (by decide) k55 rfl dX4_sealInto_46 ?_
    have q_2 : (Vj 9 1 : Int32) = nI kk.length := hj9.1
    refine lv_eqi q_2 ?_
    refine lv_isub hx hb dX4_sealInto_49 ?_
    have q_3 : (64 - (nI kk.length) : Int32) = nI (64 - kk.length) := pk_sub (a := 64) hkl
    refine lv_eqi q_3 ?_
    refine w_cVv (C := RX3) (As := [.int (nI (64 - kk.length))]) (rest := []) ⟨hx, hb, hml, hown, hts⟩ (c_X3_pushZeros l rw9 hj9 (n := 64 - kk.length) (by omega)) (cwV 1 hts gX4_sealInto_X3_pushZeros rfl rfl rfl (by decide +kernel) ⟨Nat.le_of_ble_eq_true rfl, Nat.le_of_ble_eq_true rfl⟩) (w_recv (ci := 3) hK hM (by decide) (by decide) (by decide) rfl) hM hK hS rfl hl.1 rfl (lv_room (Nat.le_of_ble_eq_true rfl)) dX4_sealInto_50 ⟨Nat.le_of_ble_eq_true rfl, Nat.le_of_ble_eq_true rfl⟩ (fun V50 H locs hp50 hM hS => ?_)
    have h9 : rowIs V50 9 (kB lk) := by have := hp50.1; rw [ekk] at this; exact this
    have f50 : frB V V50 5 12 k := hfj.trans (hp50.2.toB (by omega))
    refine lv_aload_n hx hb dX4_sealInto_53 rfl (lv_at hl 0 rfl) ?_
    refine lv_bipush (v := 54) hx hb dX4_sealInto_54 (by decide) ?_
    refine w_cVv (C := RX4) (As := [.int 54]) (rest := []) ⟨hx, hb, hml, hown, hts⟩ (c_X4_startWork l h9 (kB_len lk) 54) (cwV 1 hts gX4_sealInto_X4_startWork rfl rfl rfl (by decide +kernel) ⟨Nat.le_of_ble_eq_true rfl, Nat.le_of_ble_eq_true rfl⟩) (w_recv (ci := 4) hK hM (by decide) (by decide) (by decide) rfl) hM hK hS rfl hl.1 rfl (lv_room (Nat.le_of_ble_eq_true rfl)) dX4_sealInto_56 ⟨Nat.le_of_ble_eq_true rfl, Nat.le_of_ble_eq_true rfl⟩ (fun V56 H locs hp56 hM hS => ?_)
    have f56 : frB V V56 5 12 k := f50.trans (hp56.2.toB (by omega))
    have h9b : rowIs V56 9 (kB lk) := h9.otherR hp56.2 (by omega) (by omega) (by omega)
    have m56 : rowIs V56 k3 lm := hm.keep ((hp56.2 k3 (by omega) (by omega)).trans (hp50.2 k3 (by omega) (by omega))) ((hp56.2 (k3 + 1) (by omega) (by omega)).trans (hp50.2 (k3 + 1) (by omega) (by omega)))
    refine lv_aload_n hx hb dX4_sealInto_59 rfl (lv_at hl 0 rfl) ?_
    refine w_gr 4 2 7 (T := TX4) (N := 9) hx hb hts in4 hown hK.1 hM (by decide) (by decide) (by decide) (by decide) (by decide) rfl (by decide) k23 rfl dX4_sealInto_60 ?_
    refine lv_aload_n hx hb dX4_sealInto_63 rfl (lv_at hl 3 rfl) ?_
    refine w_cVv (C := RX3) (As := [.ref (E.1 + k3)]) (rest := []) ⟨hx, hb, hml, hown, hts⟩ (c_X3_pushAll l rw7 hk3 (by omega) hp56.1 m56 h3l (by rw [List.length_map, kB_len]; omega)) (cwV 1 hts gX4_sealInto_X3_pushAll rfl rfl rfl (by decide +kernel) ⟨Nat.le_of_ble_eq_true rfl, Nat.le_of_ble_eq_true rfl⟩) (w_recv (ci := 3) hK hM (by decide) (by decide) (by decide) rfl) hM hK hS rfl hl.1 rfl (lv_room (Nat.le_of_ble_eq_true rfl)) dX4_sealInto_64 ⟨Nat.le_of_ble_eq_true rfl, Nat.le_of_ble_eq_true rfl⟩ (fun V64 H locs hp64 hM hS => ?_)
    have f64 : frB V V64 5 12 k := f56.trans (hp64.2.toB (by omega))
    have h9c : rowIs V64 9 (kB lk) := h9b.otherR hp64.2 (by omega) (by omega) (by omega)
    refine lv_aload_n hx hb dX4_sealInto_67 rfl (lv_at hl 0 rfl) ?_
    refine lv_aload_n hx hb dX4_sealInto_68 rfl (lv_at hl 0 rfl) ?_
    refine w_gr 4 4 11 (T := TX4) (N := 9) hx hb hts in4 hown hK.1 hM (by decide) (by decide) (by decide) (by decide) (by decide) rfl (by decide) k30 rfl dX4_sealInto_69 ?_
    refine w_cVv (C := RX4) (As := [.ref (E.1 + 11)]) (rest := []) ⟨hx, hb, hml, hown, hts⟩ (c_X4_hashWork l rw11 (by decide) (by decide) hp64.1 (by rw [List.length_append, List.length_map, kB_len]; omega)) (cwV 1 hts gX4_sealInto_X4_hashWork rfl rfl rfl (by decide +kernel) ⟨Nat.le_of_ble_eq_true rfl, Nat.le_of_ble_eq_true rfl⟩) (w_recv (ci := 4) hK hM (by decide) (by decide) (by decide) rfl) hM hK hS rfl hl.1 rfl (lv_room (Nat.le_of_ble_eq_true rfl)) dX4_sealInto_72 ⟨Nat.le_of_ble_eq_true rfl, Nat.le_of_ble_eq_true rfl⟩ (fun V72 H locs hp72 hM hS => ?_)
    have f72 : frB V V72 5 12 k := f64.trans (hp72.2.wide (by omega) (Or.inr (by omega)))
    have h9d : rowIs V72 9 (kB lk) := h9c.other hp72.2 (by omega) (by omega) (by omega) (by omega)
    refine lv_aload_n hx hb dX4_sealInto_75 rfl (lv_at hl 0 rfl) ?_
    refine lv_bipush (v := 92) hx hb dX4_sealInto_76 (by decide) ?_
    refine w_cVv (C := RX4) (As := [.int 92]) (rest := []) ⟨hx, hb, hml, hown, hts⟩ (c_X4_startWork l h9d (kB_len lk) 92) (cwV 1 hts gX4_sealInto_X4_startWork rfl rfl rfl (by decide +kernel) ⟨Nat.le_of_ble_eq_true rfl, Nat.le_of_ble_eq_true rfl⟩) (w_recv (ci := 4) hK hM (by decide) (by decide) (by decide) rfl) hM hK hS rfl hl.1 rfl (lv_room (Nat.le_of_ble_eq_true rfl)) dX4_sealInto_78 ⟨Nat.le_of_ble_eq_true rfl, Nat.le_of_ble_eq_true rfl⟩ (fun V78 H locs hp78 hM hS => ?_)
    have f78 : frB V V78 5 12 k := f72.trans (hp78.2.toB (by omega))
    have h11 := hp72.1.otherR hp78.2 (by omega) (by omega) (by omega)
    refine lv_aload_n hx hb dX4_sealInto_81 rfl (lv_at hl 0 rfl) ?_
    refine w_gr 4 2 7 (T := TX4) (N := 9) hx hb hts in4 hown hK.1 hM (by decide) (by decide) (by decide) (by decide) (by decide) rfl (by decide) k23 rfl dX4_sealInto_82 ?_
    refine lv_aload_n hx hb dX4_sealInto_85 rfl (lv_at hl 0 rfl) ?_
    refine w_gr 4 4 11 (T := TX4) (N := 9) hx hb hts in4 hown hK.1 hM (by decide) (by decide) (by decide) (by decide) (by decide) rfl (by decide) k30 rfl dX4_sealInto_86 ?_
    refine w_cVv (C := RX3) (As := [.ref (E.1 + 11)]) (rest := []) ⟨hx, hb, hml, hown, hts⟩ (c_X3_pushAll l rw7 rw11 (by omega) hp78.1 h11 (by rw [sha_len]; omega) (by rw [List.length_map, kB_len, sha_len]; omega)) (cwV 1 hts gX4_sealInto_X3_pushAll rfl rfl rfl (by decide +kernel) ⟨Nat.le_of_ble_eq_true rfl, Nat.le_of_ble_eq_true rfl⟩) (w_recv (ci := 3) hK hM (by decide) (by decide) (by decide) rfl) hM hK hS rfl hl.1 rfl (lv_room (Nat.le_of_ble_eq_true rfl)) dX4_sealInto_89 ⟨Nat.le_of_ble_eq_true rfl, Nat.le_of_ble_eq_true rfl⟩ (fun V89 H locs hp89 hM hS => ?_)
    have f89 : frB V V89 5 12 k := f78.trans (hp89.2.toB (by omega))
    refine lv_aload_n hx hb dX4_sealInto_92 rfl (lv_at hl 0 rfl) ?_
    refine lv_aload_n hx hb dX4_sealInto_93 rfl (lv_at hl 1 rfl) ?_
    refine w_cVv (C := RX4) (As := [.ref (E.1 + k)]) (rest := []) ⟨hx, hb, hml, hown, hts⟩ (c_X4_hashWork l hk hc32 (by omega) hp89.1 (by rw [List.length_append, List.length_map, kB_len, sha_len]; omega)) (cwV 1 hts gX4_sealInto_X4_hashWork rfl rfl rfl (by decide +kernel) ⟨Nat.le_of_ble_eq_true rfl, Nat.le_of_ble_eq_true rfl⟩) (w_recv (ci := 4) hK hM (by decide) (by decide) (by decide) rfl) hM hK hS rfl hl.1 rfl (lv_room (Nat.le_of_ble_eq_true rfl)) dX4_sealInto_94 ⟨Nat.le_of_ble_eq_true rfl, Nat.le_of_ble_eq_true rfl⟩ (fun V94 H locs hp94 hM hS => ?_)
    have f94 : frB V V94 5 12 k := f89.trans (hp94.2.wide (by omega) (Or.inl rfl))
    exact w_vret (free := AE E) V94 hx hb hret hK hS hM (⟨hp94.1, f94⟩) hlocks dX4_sealInto_97
  refine lv_icmp_le (tgt := 28) hx hb dX4_sealInto_6 (by decide) (fun c_6 => ?_) (fun c_6 => ?_)
  · have hle : lk.length ≤ 64 := (nI_leI (b := 64) (by omega) (by omega)).mp c_6
    refine lv_aload_n hx hb dX4_sealInto_28 rfl (lv_at hl 0 rfl) ?_
    refine w_gr 4 3 9 (T := TX4) (N := 9) hx hb hts in4 hown hK.1 hM (by decide) (by decide) (by decide) (by decide) (by decide) rfl (by decide) k27 rfl dX4_sealInto_29 ?_
    refine lv_aload_n hx hb dX4_sealInto_32 rfl (lv_at hl 2 rfl) ?_
    refine w_cVv (C := RX3) (As := [.ref (E.1 + k2)]) (rest := []) ⟨hx, hb, hml, hown, hts⟩ (c_X3_takeOver l rw9 hk2 hr2 h2l hle) (cwV 1 hts gX4_sealInto_X3_takeOver rfl rfl rfl (by decide +kernel) ⟨Nat.le_of_ble_eq_true rfl, Nat.le_of_ble_eq_true rfl⟩) (w_recv (ci := 3) hK hM (by decide) (by decide) (by decide) rfl) hM hK hS rfl hl.1 rfl (lv_room (Nat.le_of_ble_eq_true rfl)) dX4_sealInto_33 ⟨Nat.le_of_ble_eq_true rfl, Nat.le_of_ble_eq_true rfl⟩ (fun V33 H locs hp33 hM hS => ?_)
    exact join36 V33 _ _ _ lk hp33.1 hle (by unfold kB; rw [if_neg (by omega)]) (hr3.otherR hp33.2 (by omega) (by omega) (by omega)) (hp33.2.toB (by omega)) hM hS (lv_sub hl [0, 1, 2, 3] rfl)
  · have hgt : lk.length > 64 := Nat.not_le.mp (fun q => c_6 (nI_le (b := 64) q (by omega)))
    refine lv_aload_n hx hb dX4_sealInto_9 rfl (lv_at hl 0 rfl) ?_
    refine w_gr 4 2 7 (T := TX4) (N := 9) hx hb hts in4 hown hK.1 hM (by decide) (by decide) (by decide) (by decide) (by decide) rfl (by decide) k23 rfl dX4_sealInto_10 ?_
    refine lv_aload_n hx hb dX4_sealInto_13 rfl (lv_at hl 2 rfl) ?_
    refine w_cVv (C := RX3) (As := [.ref (E.1 + k2)]) (rest := []) ⟨hx, hb, hml, hown, hts⟩ (c_X3_takeOver l rw7 hk2 hr2 h2l (by omega)) (cwV 1 hts gX4_sealInto_X3_takeOver rfl rfl rfl (by decide +kernel) ⟨Nat.le_of_ble_eq_true rfl, Nat.le_of_ble_eq_true rfl⟩) (w_recv (ci := 3) hK hM (by decide) (by decide) (by decide) rfl) hM hK hS rfl hl.1 rfl (lv_room (Nat.le_of_ble_eq_true rfl)) dX4_sealInto_14 ⟨Nat.le_of_ble_eq_true rfl, Nat.le_of_ble_eq_true rfl⟩ (fun V14 H locs hp14 hM hS => ?_)
    refine lv_aload_n hx hb dX4_sealInto_17 rfl (lv_at hl 0 rfl) ?_
    refine lv_aload_n hx hb dX4_sealInto_18 rfl (lv_at hl 0 rfl) ?_
    refine w_gr 4 3 9 (T := TX4) (N := 9) hx hb hts in4 hown hK.1 hM (by decide) (by decide) (by decide) (by decide) (by decide) rfl (by decide) k27 rfl dX4_sealInto_19 ?_
    refine w_cVv (C := RX4) (As := [.ref (E.1 + 9)]) (rest := []) ⟨hx, hb, hml, hown, hts⟩ (c_X4_hashWork l rw9 (by decide) (by decide) hp14.1 (by omega)) (cwV 1 hts gX4_sealInto_X4_hashWork rfl rfl rfl (by decide +kernel) ⟨Nat.le_of_ble_eq_true rfl, Nat.le_of_ble_eq_true rfl⟩) (w_recv (ci := 4) hK hM (by decide) (by decide) (by decide) rfl) hM hK hS rfl hl.1 rfl (lv_room (Nat.le_of_ble_eq_true rfl)) dX4_sealInto_22 ⟨Nat.le_of_ble_eq_true rfl, Nat.le_of_ble_eq_true rfl⟩ (fun V22 H locs hp22 hM hS => ?_)
    refine lv_goto (tgt := 36) hx hb dX4_sealInto_25 (by decide) ?_
    exact join36 V22 _ _ _ (sha lk) hp22.1 (by rw [sha_len]; omega) (by unfold kB; rw [if_pos hgt]) ((hr3.otherR hp14.2 (by omega) (by omega) (by omega)).other hp22.2 (by omega) (by omega) (by omega) (by omega)) ((hp14.2.toB (by omega)).trans (hp22.2.wide (by omega) (Or.inr (by omega)))) hM hS (lv_sub hl [0, 1, 2, 3] rfl)

set_option maxHeartbeats 4000000 in
set_option maxRecDepth 100000 in
theorem c_X4_goOnOwn (l : Launch) {E : En} {V : Vt} {k cap b : Nat} (hk : isRow k cap) (hc32 : 32 ≤ cap) (h12 : 18 < k) (hb5 : isLim b) (hb12 : 18 < b) {ls0 lt : List Int32} (hr1 : rowIs V k ls0) (hr2 : rowIs V (b + 1) lt) (h1l : ls0.length ≤ 32) (h2l : lt.length ≤ 60) : CV l yX4_goOnOwn wsX4_goOnOwn 4 E V [.ref (E.1 + 4), .ref (E.1 + k), .ref (E.1 + b)] (fun V' => rowIs V' k (hmac ls0 lt) ∧ frB V V' 5 12 k) := by
  refine Met.ofW (cc := cX4_goOnOwn) (maxL := 3) (ret := none) (by decide) rfl ?_
  intro p e s m args below meth c s₁ B hml hv
  obtain ⟨rfl, hM, hK⟩ := hv
  have hx := B.exec
  have hb := B.bytes
  have hret := B.returns
  have hts := atoms_spec (ws := wsX4_goOnOwn) B.pre
  have hown : s.vm.findClass RX4 = some m.cls := findClass_of_methodNamed B.named
  have hlocks := B.notSynchronized
  have hsz : s.heap.size = E.1 + 610 := hM.1
  have hS : va_S (AE E) s.heap s.heap [] := va_S.rf
  have in1 : ∀ w ∈ u_ws RX1 TX1 2, w ∈ wsX4_goOnOwn := by decide +kernel
  have k65 := hts (.fieldLink RX4 65 "LimitTokens$Limit" "text" "LLimitTokens$Row;") (by decide +kernel)
  have hl := lv_entry ([.ref (E.1 + 4), .ref (E.1 + k), .ref (E.1 + b)]) (n := 3) (Nat.le_of_ble_eq_true rfl)
  rw [lg_entry_eq]
  generalize (lg_sl ([.ref (E.1 + 4), .ref (E.1 + k), .ref (E.1 + b)]) ++ List.replicate (3 - (lg_sl ([.ref (E.1 + 4), .ref (E.1 + k), .ref (E.1 + b)])).length) Slot.unset).toArray = ls at hl ⊢
  have hl : lv_has ls 3 [(0, .ref (E.1 + 4)), (1, .ref (E.1 + k)), (2, .ref (E.1 + b))] := hl
  refine lv_aload_n hx hb dX4_goOnOwn_0 rfl (lv_at hl 0 rfl) ?_
  refine lv_aload_n hx hb dX4_goOnOwn_1 rfl (lv_at hl 1 rfl) ?_
  refine lv_aload_n hx hb dX4_goOnOwn_2 rfl (lv_at hl 1 rfl) ?_
  refine lv_aload_n hx hb dX4_goOnOwn_3 rfl (lv_at hl 2 rfl) ?_
  refine w_gr 1 0 (b + 1) (T := TX1) (N := 2) hx hb hts in1 hown hK.1 hM (hb5).lt (hb5).k (hb5).n (hb5).f0 (by decide) rfl (by decide) k65 rfl dX4_goOnOwn_4 ?_
  refine w_cVv (C := RX4) (As := [.ref (E.1 + k), .ref (E.1 + k), .ref (E.1 + (b + 1))]) (rest := []) ⟨hx, hb, hml, hown, hts⟩ (c_X4_sealInto l hk hc32 (by omega) hk (by omega) hb5.text (by omega) hr1 hr2 (by omega) (by omega) (by omega) (by omega)) (cwV 3 hts gX4_goOnOwn_X4_sealInto rfl rfl rfl (by decide +kernel) ⟨Nat.le_of_ble_eq_true rfl, Nat.le_of_ble_eq_true rfl⟩) (w_recv (ci := 4) hK hM (by decide) (by decide) (by decide) rfl) hM hK hS rfl hl.1 rfl (lv_room (Nat.le_of_ble_eq_true rfl)) dX4_goOnOwn_7 ⟨Nat.le_of_ble_eq_true rfl, Nat.le_of_ble_eq_true rfl⟩ (fun V7 H locs hp7 hM hS => ?_)
  exact w_vret (free := AE E) V7 hx hb hret hK hS hM (hp7) hlocks dX4_goOnOwn_10

set_option maxHeartbeats 4000000 in
set_option maxRecDepth 100000 in
theorem c_X4_goOnOthers (l : Launch) {E : En} {V : Vt} {k cap b : Nat} (hk : isRow k cap) (hc32 : 32 ≤ cap) (h12 : 18 < k) (hb5 : isLim b) (hb12 : 18 < b) (hd : k + 1 < b ∨ b + 4 < k) {ls0 lt lo : List Int32} (hr1 : rowIs V k ls0) (hr2 : rowIs V (b + 1) lt) (hr3 : rowIs V (b + 3) lo) (h1l : ls0.length ≤ 32) (h2l : lt.length ≤ 60) (h3l : lo.length ≤ 32) : CV l yX4_goOnOthers wsX4_goOnOthers 4 E V [.ref (E.1 + 4), .ref (E.1 + k), .ref (E.1 + b)] (fun V' => rowIs V' k (hmac ls0 (hmac ls0 lo ++ hmac ls0 lt)) ∧ frB V V' 5 18 k) := by
  refine Met.ofW (cc := cX4_goOnOthers) (maxL := 3) (ret := none) (by decide) rfl ?_
  intro p e s m args below meth c s₁ B hml hv
  obtain ⟨rfl, hM, hK⟩ := hv
  have hx := B.exec
  have hb := B.bytes
  have hret := B.returns
  have hts := atoms_spec (ws := wsX4_goOnOthers) B.pre
  have hown : s.vm.findClass RX4 = some m.cls := findClass_of_methodNamed B.named
  have hlocks := B.notSynchronized
  have hsz : s.heap.size = E.1 + 610 := hM.1
  have hS : va_S (AE E) s.heap s.heap [] := va_S.rf
  have in1 : ∀ w ∈ u_ws RX1 TX1 2, w ∈ wsX4_goOnOthers := by decide +kernel
  have in4 : ∀ w ∈ u_ws RX4 TX4 9, w ∈ wsX4_goOnOthers := by decide +kernel
  have k39 := hts (.fieldLink RX4 39 "LimitTokens$Sealer" "lockSeal" "LLimitTokens$Row;") (by decide +kernel)
  have k74 := hts (.fieldLink RX4 74 "LimitTokens$Limit" "lock" "LLimitTokens$Row;") (by decide +kernel)
  have k36 := hts (.fieldLink RX4 36 "LimitTokens$Sealer" "textSeal" "LLimitTokens$Row;") (by decide +kernel)
  have k65 := hts (.fieldLink RX4 65 "LimitTokens$Limit" "text" "LLimitTokens$Row;") (by decide +kernel)
  have k33 := hts (.fieldLink RX4 33 "LimitTokens$Sealer" "pair" "LLimitTokens$Row;") (by decide +kernel)
  have hl := lv_entry ([.ref (E.1 + 4), .ref (E.1 + k), .ref (E.1 + b)]) (n := 3) (Nat.le_of_ble_eq_true rfl)
  rw [lg_entry_eq]
  generalize (lg_sl ([.ref (E.1 + 4), .ref (E.1 + k), .ref (E.1 + b)]) ++ List.replicate (3 - (lg_sl ([.ref (E.1 + 4), .ref (E.1 + k), .ref (E.1 + b)])).length) Slot.unset).toArray = ls at hl ⊢
  have hl : lv_has ls 3 [(0, .ref (E.1 + 4)), (1, .ref (E.1 + k)), (2, .ref (E.1 + b))] := hl
  refine lv_aload_n hx hb dX4_goOnOthers_0 rfl (lv_at hl 0 rfl) ?_
  refine lv_aload_n hx hb dX4_goOnOthers_1 rfl (lv_at hl 0 rfl) ?_
  refine w_gr 4 7 17 (T := TX4) (N := 9) hx hb hts in4 hown hK.1 hM (by decide) (by decide) (by decide) (by decide) (by decide) rfl (by decide) k39 rfl dX4_goOnOthers_2 ?_
  refine lv_aload_n hx hb dX4_goOnOthers_5 rfl (lv_at hl 1 rfl) ?_
  refine lv_aload_n hx hb dX4_goOnOthers_6 rfl (lv_at hl 2 rfl) ?_
  refine w_gr 1 1 (b + 3) (T := TX1) (N := 2) hx hb hts in1 hown hK.1 hM (hb5).lt (hb5).k (hb5).n (hb5).f1 (by decide) rfl (by decide) k74 rfl dX4_goOnOthers_7 ?_
  refine w_cVv (C := RX4) (As := [.ref (E.1 + 17), .ref (E.1 + k), .ref (E.1 + (b + 3))]) (rest := []) ⟨hx, hb, hml, hown, hts⟩ (c_X4_sealInto l rw17 (by decide) (by decide) hk (by omega) hb5.lock (by omega) hr1 hr3 (by omega) (by omega) (by omega) (by omega)) (cwV 3 hts gX4_goOnOthers_X4_sealInto rfl rfl rfl (by decide +kernel) ⟨Nat.le_of_ble_eq_true rfl, Nat.le_of_ble_eq_true rfl⟩) (w_recv (ci := 4) hK hM (by decide) (by decide) (by decide) rfl) hM hK hS rfl hl.1 rfl (lv_room (Nat.le_of_ble_eq_true rfl)) dX4_goOnOthers_10 ⟨Nat.le_of_ble_eq_true rfl, Nat.le_of_ble_eq_true rfl⟩ (fun V10 H locs hp10 hM hS => ?_)
  have a1 := hr1.other hp10.2 (by omega) (by omega) (by omega) (by omega)
  have a2 := hr2.other hp10.2 (by omega) (by omega) (by omega) (by omega)
  refine lv_aload_n hx hb dX4_goOnOthers_13 rfl (lv_at hl 0 rfl) ?_
  refine lv_aload_n hx hb dX4_goOnOthers_14 rfl (lv_at hl 0 rfl) ?_
  refine w_gr 4 6 15 (T := TX4) (N := 9) hx hb hts in4 hown hK.1 hM (by decide) (by decide) (by decide) (by decide) (by decide) rfl (by decide) k36 rfl dX4_goOnOthers_15 ?_
  refine lv_aload_n hx hb dX4_goOnOthers_18 rfl (lv_at hl 1 rfl) ?_
  refine lv_aload_n hx hb dX4_goOnOthers_19 rfl (lv_at hl 2 rfl) ?_
  refine w_gr 1 0 (b + 1) (T := TX1) (N := 2) hx hb hts in1 hown hK.1 hM (hb5).lt (hb5).k (hb5).n (hb5).f0 (by decide) rfl (by decide) k65 rfl dX4_goOnOthers_20 ?_
  refine w_cVv (C := RX4) (As := [.ref (E.1 + 15), .ref (E.1 + k), .ref (E.1 + (b + 1))]) (rest := []) ⟨hx, hb, hml, hown, hts⟩ (c_X4_sealInto l rw15 (by decide) (by decide) hk (by omega) hb5.text (by omega) a1 a2 (by omega) (by omega) (by omega) (by omega)) (cwV 3 hts gX4_goOnOthers_X4_sealInto rfl rfl rfl (by decide +kernel) ⟨Nat.le_of_ble_eq_true rfl, Nat.le_of_ble_eq_true rfl⟩) (w_recv (ci := 4) hK hM (by decide) (by decide) (by decide) rfl) hM hK hS rfl hl.1 rfl (lv_room (Nat.le_of_ble_eq_true rfl)) dX4_goOnOthers_23 ⟨Nat.le_of_ble_eq_true rfl, Nat.le_of_ble_eq_true rfl⟩ (fun V23 H locs hp23 hM hS => ?_)
  have b1 := a1.other hp23.2 (by omega) (by omega) (by omega) (by omega)
  have b17 := hp10.1.other hp23.2 (by omega) (by omega) (by omega) (by omega)
  refine lv_aload_n hx hb dX4_goOnOthers_26 rfl (lv_at hl 0 rfl) ?_
  refine w_gr 4 5 13 (T := TX4) (N := 9) hx hb hts in4 hown hK.1 hM (by decide) (by decide) (by decide) (by decide) (by decide) rfl (by decide) k33 rfl dX4_goOnOthers_27 ?_
  refine lv_aload_n hx hb dX4_goOnOthers_30 rfl (lv_at hl 0 rfl) ?_
  refine w_gr 4 7 17 (T := TX4) (N := 9) hx hb hts in4 hown hK.1 hM (by decide) (by decide) (by decide) (by decide) (by decide) rfl (by decide) k39 rfl dX4_goOnOthers_31 ?_
  refine w_cVv (C := RX3) (As := [.ref (E.1 + 17)]) (rest := []) ⟨hx, hb, hml, hown, hts⟩ (c_X3_takeOver l rw13 rw17 b17 (by rw [hmac_len]; omega) (by rw [hmac_len]; omega)) (cwV 1 hts gX4_goOnOthers_X3_takeOver rfl rfl rfl (by decide +kernel) ⟨Nat.le_of_ble_eq_true rfl, Nat.le_of_ble_eq_true rfl⟩) (w_recv (ci := 3) hK hM (by decide) (by decide) (by decide) rfl) hM hK hS rfl hl.1 rfl (lv_room (Nat.le_of_ble_eq_true rfl)) dX4_goOnOthers_34 ⟨Nat.le_of_ble_eq_true rfl, Nat.le_of_ble_eq_true rfl⟩ (fun V34 H locs hp34 hM hS => ?_)
  have c1 := b1.otherR hp34.2 (by omega) (by omega) (by omega)
  have c15 := hp23.1.otherR hp34.2 (by omega) (by omega) (by omega)
  refine lv_aload_n hx hb dX4_goOnOthers_37 rfl (lv_at hl 0 rfl) ?_
  refine w_gr 4 5 13 (T := TX4) (N := 9) hx hb hts in4 hown hK.1 hM (by decide) (by decide) (by decide) (by decide) (by decide) rfl (by decide) k33 rfl dX4_goOnOthers_38 ?_
  refine lv_aload_n hx hb dX4_goOnOthers_41 rfl (lv_at hl 0 rfl) ?_
  refine w_gr 4 6 15 (T := TX4) (N := 9) hx hb hts in4 hown hK.1 hM (by decide) (by decide) (by decide) (by decide) (by decide) rfl (by decide) k36 rfl dX4_goOnOthers_42 ?_
  refine w_cVv (C := RX3) (As := [.ref (E.1 + 15)]) (rest := []) ⟨hx, hb, hml, hown, hts⟩ (c_X3_pushAll l rw13 rw15 (by omega) hp34.1 c15 (by rw [hmac_len]; omega) (by rw [hmac_len, hmac_len]; omega)) (cwV 1 hts gX4_goOnOthers_X3_pushAll rfl rfl rfl (by decide +kernel) ⟨Nat.le_of_ble_eq_true rfl, Nat.le_of_ble_eq_true rfl⟩) (w_recv (ci := 3) hK hM (by decide) (by decide) (by decide) rfl) hM hK hS rfl hl.1 rfl (lv_room (Nat.le_of_ble_eq_true rfl)) dX4_goOnOthers_45 ⟨Nat.le_of_ble_eq_true rfl, Nat.le_of_ble_eq_true rfl⟩ (fun V45 H locs hp45 hM hS => ?_)
  have d1 := c1.otherR hp45.2 (by omega) (by omega) (by omega)
  refine lv_aload_n hx hb dX4_goOnOthers_48 rfl (lv_at hl 0 rfl) ?_
  refine lv_aload_n hx hb dX4_goOnOthers_49 rfl (lv_at hl 1 rfl) ?_
  refine lv_aload_n hx hb dX4_goOnOthers_50 rfl (lv_at hl 1 rfl) ?_
  refine lv_aload_n hx hb dX4_goOnOthers_51 rfl (lv_at hl 0 rfl) ?_
  refine w_gr 4 5 13 (T := TX4) (N := 9) hx hb hts in4 hown hK.1 hM (by decide) (by decide) (by decide) (by decide) (by decide) rfl (by decide) k33 rfl dX4_goOnOthers_52 ?_
  refine w_cVv (C := RX4) (As := [.ref (E.1 + k), .ref (E.1 + k), .ref (E.1 + 13)]) (rest := []) ⟨hx, hb, hml, hown, hts⟩ (c_X4_sealInto l hk hc32 (by omega) hk (by omega) rw13 (by omega) d1 hp45.1 (by omega) (by rw [List.length_append, hmac_len, hmac_len]; omega) (by omega) (by rw [List.length_append, hmac_len, hmac_len]; omega)) (cwV 3 hts gX4_goOnOthers_X4_sealInto rfl rfl rfl (by decide +kernel) ⟨Nat.le_of_ble_eq_true rfl, Nat.le_of_ble_eq_true rfl⟩) (w_recv (ci := 4) hK hM (by decide) (by decide) (by decide) rfl) hM hK hS rfl hl.1 rfl (lv_room (Nat.le_of_ble_eq_true rfl)) dX4_goOnOthers_55 ⟨Nat.le_of_ble_eq_true rfl, Nat.le_of_ble_eq_true rfl⟩ (fun V55 H locs hp55 hM hS => ?_)
  exact w_vret (free := AE E) V55 hx hb hret hK hS hM (⟨hp55.1, ((hp10.2.wide (by omega) (Or.inr (by omega))).trans (hp23.2.wide (by omega) (Or.inr (by omega)))).trans (((hp34.2.toB (by omega)).trans (hp45.2.toB (by omega))).trans (hp55.2.wide (by omega) (Or.inl rfl)))⟩) hlocks dX4_goOnOthers_58

set_option maxHeartbeats 4000000 in
set_option maxRecDepth 100000 in
theorem c_X4_turnKey (l : Launch) {E : En} {V : Vt} {k cap k2 cap2 k3 cap3 k4 cap4 : Nat} (hk : isRow k cap) (hc32 : 32 ≤ cap) (h12 : 18 < k) (hk2 : isRow k2 cap2) (h212 : 18 < k2) (hk3 : isRow k3 cap3) (h312 : 18 < k3) (hk4 : isRow k4 cap4) (h412 : 18 < k4) {l2 l3 l4 : List Int32} (hr2 : rowIs V k2 l2) (hr3 : rowIs V k3 l3) (hr4 : rowIs V k4 l4) (h2l : l2.length = 32) (h2c : 32 ≤ cap2) (h3l : l3.length ≤ 32) (h3c : 32 ≤ cap3) (h4l : l4.length ≤ 60) (h4c : 60 ≤ cap4) : CV l yX4_turnKey wsX4_turnKey 4 E V [.ref (E.1 + 4), .ref (E.1 + k), .ref (E.1 + k2), .ref (E.1 + k3), .ref (E.1 + k4)] (fun V' => rowIs V' k (xorL l2 (hmac l3 l4)) ∧ frB V V' 5 18 k) := by
  refine Met.ofW (cc := cX4_turnKey) (maxL := 6) (ret := none) (by decide) rfl ?_
  intro p e s m args below meth c s₁ B hml hv
  obtain ⟨rfl, hM, hK⟩ := hv
  have hx := B.exec
  have hb := B.bytes
  have hret := B.returns
  have hts := atoms_spec (ws := wsX4_turnKey) B.pre
  have hown : s.vm.findClass RX4 = some m.cls := findClass_of_methodNamed B.named
  have hlocks := B.notSynchronized
  have hsz : s.heap.size = E.1 + 610 := hM.1
  have hS : va_S (AE E) s.heap s.heap [] := va_S.rf
  have in4 : ∀ w ∈ u_ws RX4 TX4 9, w ∈ wsX4_turnKey := by decide +kernel
  have k36 := hts (.fieldLink RX4 36 "LimitTokens$Sealer" "textSeal" "LLimitTokens$Row;") (by decide +kernel)
  have hl := lv_entry ([.ref (E.1 + 4), .ref (E.1 + k), .ref (E.1 + k2), .ref (E.1 + k3), .ref (E.1 + k4)]) (n := 6) (Nat.le_of_ble_eq_true rfl)
  rw [lg_entry_eq]
  generalize (lg_sl ([.ref (E.1 + 4), .ref (E.1 + k), .ref (E.1 + k2), .ref (E.1 + k3), .ref (E.1 + k4)]) ++ List.replicate (6 - (lg_sl ([.ref (E.1 + 4), .ref (E.1 + k), .ref (E.1 + k2), .ref (E.1 + k3), .ref (E.1 + k4)])).length) Slot.unset).toArray = ls at hl ⊢
  have hl : lv_has ls 6 [(0, .ref (E.1 + 4)), (1, .ref (E.1 + k)), (2, .ref (E.1 + k2)), (3, .ref (E.1 + k3)), (4, .ref (E.1 + k4))] := hl
  have hh := hmac_len l3 l4
  have hle : l2.length = (hmac l3 l4).length := by omega
  refine lv_aload_n hx hb dX4_turnKey_0 rfl (lv_at hl 0 rfl) ?_
  refine lv_aload_n hx hb dX4_turnKey_1 rfl (lv_at hl 0 rfl) ?_
  refine w_gr 4 6 15 (T := TX4) (N := 9) hx hb hts in4 hown hK.1 hM (by decide) (by decide) (by decide) (by decide) (by decide) rfl (by decide) k36 rfl dX4_turnKey_2 ?_
  refine lv_aload_n hx hb dX4_turnKey_5 rfl (lv_at hl 3 rfl) ?_
  refine lv_aload hx hb dX4_turnKey_6 (lv_at hl 4 rfl) ?_
  refine w_cVv (C := RX4) (As := [.ref (E.1 + 15), .ref (E.1 + k3), .ref (E.1 + k4)]) (rest := []) ⟨hx, hb, hml, hown, hts⟩ (c_X4_sealInto l rw15 (by decide) (by decide) hk3 (by omega) hk4 (by omega) hr3 hr4 (by omega) (by omega) (by omega) (by omega)) (cwV 3 hts gX4_turnKey_X4_sealInto rfl rfl rfl (by decide +kernel) ⟨Nat.le_of_ble_eq_true rfl, Nat.le_of_ble_eq_true rfl⟩) (w_recv (ci := 4) hK hM (by decide) (by decide) (by decide) rfl) hM hK hS rfl hl.1 rfl (lv_room (Nat.le_of_ble_eq_true rfl)) dX4_turnKey_8 ⟨Nat.le_of_ble_eq_true rfl, Nat.le_of_ble_eq_true rfl⟩ (fun V8 H locs hp8 hM hS => ?_)
  have a2 := hr2.other hp8.2 (by omega) (by omega) (by omega) (by omega)
  refine lv_aload_n hx hb dX4_turnKey_11 rfl (lv_at hl 1 rfl) ?_
  refine lv_aload_n hx hb dX4_turnKey_12 rfl (lv_at hl 2 rfl) ?_
  refine w_cVv (C := RX3) (As := [.ref (E.1 + k2)]) (rest := []) ⟨hx, hb, hml, hown, hts⟩ (c_X3_takeOver l hk hk2 a2 (by omega) (by omega)) (cwV 1 hts gX4_turnKey_X3_takeOver rfl rfl rfl (by decide +kernel) ⟨Nat.le_of_ble_eq_true rfl, Nat.le_of_ble_eq_true rfl⟩) (w_recv (ci := 3) hK hM (hk).lt (hk).k (by decide) rfl) hM hK hS rfl hl.1 rfl (lv_room (Nat.le_of_ble_eq_true rfl)) dX4_turnKey_13 ⟨Nat.le_of_ble_eq_true rfl, Nat.le_of_ble_eq_true rfl⟩ (fun V13 H locs hp13 hM hS => ?_)
  have a15 := hp8.1.otherR hp13.2 (by omega) (by omega) (by omega)
  refine lv_iconst (v := 0) hx hb dX4_turnKey_16 (by decide) ?_
  refine lv_istore (lv' := [(5, .int 0), (0, .ref (E.1 + 4)), (1, .ref (E.1 + k)), (2, .ref (E.1 + k2)), (3, .ref (E.1 + k3)), (4, .ref (E.1 + k4))]) hx hb dX4_turnKey_17 hl (by decide) rfl (fun ls hl => ?_)
  have loop19 : ∀ (fu : Nat) (Vw : Vt) (H : Heap) (locs : List Loc) (ls : Array Slot) (j : Nat) (hj : j ≤ 32) (hr : rowIs Vw k (xorJ l2 (hmac l3 l4) j)) (hf : frR V13 Vw k), 32 - j < fu → Wd E Vw H → va_S (AE E) s.heap H locs → lv_has ls 6 [(0, .ref (E.1 + 4)), (1, .ref (E.1 + k)), (5, .int (nI j))] → W p l e (headSpec wsX4_turnKey (rmD 4)).room s m ([.ref (E.1 + 4), .ref (E.1 + k), .ref (E.1 + k2), .ref (E.1 + k3), .ref (E.1 + k4)] : List Value).toArray below meth c H locs 0 0 (MQ below (QV E (fun V' => Wd E V') (fun V' => rowIs V' k (xorL l2 (hmac l3 l4)) ∧ frB V V' 5 18 k)) ([.ref (E.1 + 4), .ref (E.1 + k), .ref (E.1 + k2), .ref (E.1 + k3), .ref (E.1 + k4)] : List Value).toArray s 0 0 (AE E)) (F0 m 19 ls []) := by
    intro fu
    induction fu with
    | zero => intros; omega
    | succ fu ih =>
      intro Vw H locs ls j hj hr hf hfu hM hS hl
      have b15 := a15.otherR hf (by omega) (by omega) (by omega)
      refine lv_iload hx hb dX4_turnKey_19 (lv_at hl 2 rfl) ?_
      refine lv_bipush (v := 32) hx hb dX4_turnKey_21 (by decide) ?_
      refine lv_icmp_ge (tgt := 48) hx hb dX4_turnKey_23 (by decide) (fun c_23 => ?_) (fun c_23 => ?_)
      · exact w_vret (free := AE E) Vw hx hb hret hK hS hM (by have := nI_lei (a := 32) rfl c_23 (by omega) (by omega); have h32 : j = l2.length := (by omega); subst h32; rw [xorJ_all hle] at hr; exact ⟨hr, (hp8.2.wide (by omega) (Or.inr (by omega))).trans (hp13.2.toK.trans hf.toK)⟩) hlocks dX4_turnKey_48
      · have hlt := nI_ltn (a := 32) rfl c_23 (by omega) (by omega)
        refine lv_aload_n hx hb dX4_turnKey_26 rfl (lv_at hl 1 rfl) ?_
        refine lv_iload hx hb dX4_turnKey_27 (lv_at hl 2 rfl) ?_
        refine lv_aload_n hx hb dX4_turnKey_29 rfl (lv_at hl 0 rfl) ?_
        refine w_gr 4 6 15 (T := TX4) (N := 9) hx hb hts in4 hown hK.1 hM (by decide) (by decide) (by decide) (by decide) (by decide) rfl (by decide) k36 rfl dX4_turnKey_30 ?_
        refine lv_iload hx hb dX4_turnKey_33 (lv_at hl 2 rfl) ?_
        refine w_cVi (C := RX3) (As := [.int (nI j)]) (rest := [.int (nI j), .ref (E.1 + k)]) ⟨hx, hb, hml, hown, hts⟩ (c_X3_byteAt l rw15 b15 (by omega) (nI j)) (cwV 1 hts gX4_turnKey_X3_byteAt rfl rfl rfl (by decide +kernel) ⟨Nat.le_of_ble_eq_true rfl, Nat.le_of_ble_eq_true rfl⟩) (w_recv (ci := 3) hK hM (by decide) (by decide) (by decide) rfl) hM hK hS rfl hl.1 rfl (lv_room (Nat.le_of_ble_eq_true rfl)) dX4_turnKey_35 ⟨Nat.le_of_ble_eq_true rfl, Nat.le_of_ble_eq_true rfl⟩ (fun r35 V35 H locs hp35 hM hS => ?_)
        obtain ⟨er35, eV⟩ := hp35
        rw [eV] at hM; clear eV
        have q : (r35 : Int32) = (hmac l3 l4).getD j 0 := er35.trans (bAt_in rfl (by omega) (by omega))
        refine lv_eqi q ?_
        refine w_cVi (C := RX3) (As := [.int (nI j), .int ((hmac l3 l4).getD j 0)]) (rest := []) ⟨hx, hb, hml, hown, hts⟩ (c_X3_flip l hk hr (by rw [xorJ_len hle]; omega) (j := j) (by rw [xorJ_len hle]; omega) ((hmac l3 l4).getD j 0)) (cwV 2 hts gX4_turnKey_X3_flip rfl rfl rfl (by decide +kernel) ⟨Nat.le_of_ble_eq_true rfl, Nat.le_of_ble_eq_true rfl⟩) (w_recv (ci := 3) hK hM (hk).lt (hk).k (by decide) rfl) hM hK hS rfl hl.1 rfl (lv_room (Nat.le_of_ble_eq_true rfl)) dX4_turnKey_38 ⟨Nat.le_of_ble_eq_true rfl, Nat.le_of_ble_eq_true rfl⟩ (fun r38 V38 H locs hp38 hM hS => ?_)
        refine lv_pop hx hb dX4_turnKey_41 rfl ?_
        obtain ⟨x5_42, ex5_42⟩ : ∃ y : Int32, y = (nI j) + 1 := ⟨_, rfl⟩
        refine lv_iinc (v := x5_42) (lv' := [(5, .int x5_42), (0, .ref (E.1 + 4)), (1, .ref (E.1 + k))]) hx hb dX4_turnKey_42 hl (k := 2) rfl (by rw [ex5_42]; rfl) (by decide) rfl (fun ls hl => ?_)
        refine lv_goto (tgt := 19) hx hb dX4_turnKey_45 (by decide) ?_
        subst ex5_42
        rw [nI_1] at hl
        exact ih V38 _ _ _ (j + 1) (by omega) (by rw [← xorJ_s hle (by omega)]; exact hp38.2.1) (hf.trans hp38.2.2) (by omega) hM hS (lv_sub hl [1, 2, 0] rfl)
  exact loop19 _ V13 _ _ _ 0 (Nat.zero_le _) (by rw [xorJ_0]; exact hp13.1) (frR.rf) (Nat.lt_succ_self _) hM hS (lv_sub hl [1, 2, 0] rfl)

set_option maxHeartbeats 4000000 in
set_option maxRecDepth 100000 in
theorem c_X4_bindSign (l : Launch) {E : En} {V : Vt} {k cap k2 cap2 : Nat} (hk : isRow k cap) (hc32 : 32 ≤ cap) (h12 : 20 < k) (hk2 : isRow k2 cap2) (h212 : 20 < k2) {l1 l2 : List Int32} (hr1 : rowIs V k l1) (hr2 : rowIs V k2 l2) (h1l : l1.length = 32) (h2l : l2.length = 32) (h2c : 32 ≤ cap2) (h19 : rowIs V 19 (List.replicate 32 0)) : CV l yX4_bindSign wsX4_bindSign 4 E V [.ref (E.1 + 4), .ref (E.1 + k), .ref (E.1 + k2)] (fun V' => rowIs V' k (hmac (List.replicate 32 0) (l2 ++ l1)) ∧ frB V V' 5 18 k) := by
  refine Met.ofW (cc := cX4_bindSign) (maxL := 3) (ret := none) (by decide) rfl ?_
  intro p e s m args below meth c s₁ B hml hv
  obtain ⟨rfl, hM, hK⟩ := hv
  have hx := B.exec
  have hb := B.bytes
  have hret := B.returns
  have hts := atoms_spec (ws := wsX4_bindSign) B.pre
  have hown : s.vm.findClass RX4 = some m.cls := findClass_of_methodNamed B.named
  have hlocks := B.notSynchronized
  have hsz : s.heap.size = E.1 + 610 := hM.1
  have hS : va_S (AE E) s.heap s.heap [] := va_S.rf
  have in4 : ∀ w ∈ u_ws RX4 TX4 9, w ∈ wsX4_bindSign := by decide +kernel
  have k33 := hts (.fieldLink RX4 33 "LimitTokens$Sealer" "pair" "LLimitTokens$Row;") (by decide +kernel)
  have k42 := hts (.fieldLink RX4 42 "LimitTokens$Sealer" "zeroKey" "LLimitTokens$Row;") (by decide +kernel)
  have hl := lv_entry ([.ref (E.1 + 4), .ref (E.1 + k), .ref (E.1 + k2)]) (n := 3) (Nat.le_of_ble_eq_true rfl)
  rw [lg_entry_eq]
  generalize (lg_sl ([.ref (E.1 + 4), .ref (E.1 + k), .ref (E.1 + k2)]) ++ List.replicate (3 - (lg_sl ([.ref (E.1 + 4), .ref (E.1 + k), .ref (E.1 + k2)])).length) Slot.unset).toArray = ls at hl ⊢
  have hl : lv_has ls 3 [(0, .ref (E.1 + 4)), (1, .ref (E.1 + k)), (2, .ref (E.1 + k2))] := hl
  refine lv_aload_n hx hb dX4_bindSign_0 rfl (lv_at hl 0 rfl) ?_
  refine w_gr 4 5 13 (T := TX4) (N := 9) hx hb hts in4 hown hK.1 hM (by decide) (by decide) (by decide) (by decide) (by decide) rfl (by decide) k33 rfl dX4_bindSign_1 ?_
  refine lv_aload_n hx hb dX4_bindSign_4 rfl (lv_at hl 2 rfl) ?_
  refine w_cVv (C := RX3) (As := [.ref (E.1 + k2)]) (rest := []) ⟨hx, hb, hml, hown, hts⟩ (c_X3_takeOver l rw13 hk2 hr2 (by omega) (by omega)) (cwV 1 hts gX4_bindSign_X3_takeOver rfl rfl rfl (by decide +kernel) ⟨Nat.le_of_ble_eq_true rfl, Nat.le_of_ble_eq_true rfl⟩) (w_recv (ci := 3) hK hM (by decide) (by decide) (by decide) rfl) hM hK hS rfl hl.1 rfl (lv_room (Nat.le_of_ble_eq_true rfl)) dX4_bindSign_5 ⟨Nat.le_of_ble_eq_true rfl, Nat.le_of_ble_eq_true rfl⟩ (fun V5 H locs hp5 hM hS => ?_)
  have a1 := hr1.otherR hp5.2 (by omega) (by omega) (by omega)
  have a19 := h19.otherR hp5.2 (by omega) (by omega) (by omega)
  refine lv_aload_n hx hb dX4_bindSign_8 rfl (lv_at hl 0 rfl) ?_
  refine w_gr 4 5 13 (T := TX4) (N := 9) hx hb hts in4 hown hK.1 hM (by decide) (by decide) (by decide) (by decide) (by decide) rfl (by decide) k33 rfl dX4_bindSign_9 ?_
  refine lv_aload_n hx hb dX4_bindSign_12 rfl (lv_at hl 1 rfl) ?_
  refine w_cVv (C := RX3) (As := [.ref (E.1 + k)]) (rest := []) ⟨hx, hb, hml, hown, hts⟩ (c_X3_pushAll l rw13 hk (by omega) hp5.1 a1 (by omega) (by omega)) (cwV 1 hts gX4_bindSign_X3_pushAll rfl rfl rfl (by decide +kernel) ⟨Nat.le_of_ble_eq_true rfl, Nat.le_of_ble_eq_true rfl⟩) (w_recv (ci := 3) hK hM (by decide) (by decide) (by decide) rfl) hM hK hS rfl hl.1 rfl (lv_room (Nat.le_of_ble_eq_true rfl)) dX4_bindSign_13 ⟨Nat.le_of_ble_eq_true rfl, Nat.le_of_ble_eq_true rfl⟩ (fun V13 H locs hp13 hM hS => ?_)
  have b19 := a19.otherR hp13.2 (by omega) (by omega) (by omega)
  refine lv_aload_n hx hb dX4_bindSign_16 rfl (lv_at hl 0 rfl) ?_
  refine lv_aload_n hx hb dX4_bindSign_17 rfl (lv_at hl 1 rfl) ?_
  refine lv_aload_n hx hb dX4_bindSign_18 rfl (lv_at hl 0 rfl) ?_
  refine w_gr 4 8 19 (T := TX4) (N := 9) hx hb hts in4 hown hK.1 hM (by decide) (by decide) (by decide) (by decide) (by decide) rfl (by decide) k42 rfl dX4_bindSign_19 ?_
  refine lv_aload_n hx hb dX4_bindSign_22 rfl (lv_at hl 0 rfl) ?_
  refine w_gr 4 5 13 (T := TX4) (N := 9) hx hb hts in4 hown hK.1 hM (by decide) (by decide) (by decide) (by decide) (by decide) rfl (by decide) k33 rfl dX4_bindSign_23 ?_
  refine w_cVv (C := RX4) (As := [.ref (E.1 + k), .ref (E.1 + 19), .ref (E.1 + 13)]) (rest := []) ⟨hx, hb, hml, hown, hts⟩ (c_X4_sealInto l hk hc32 (by omega) rw19 (by decide) rw13 (by decide) b19 hp13.1 (by simp) (by rw [List.length_append]; omega) (by simp) (by rw [List.length_append]; omega)) (cwV 3 hts gX4_bindSign_X4_sealInto rfl rfl rfl (by decide +kernel) ⟨Nat.le_of_ble_eq_true rfl, Nat.le_of_ble_eq_true rfl⟩) (w_recv (ci := 4) hK hM (by decide) (by decide) (by decide) rfl) hM hK hS rfl hl.1 rfl (lv_room (Nat.le_of_ble_eq_true rfl)) dX4_bindSign_26 ⟨Nat.le_of_ble_eq_true rfl, Nat.le_of_ble_eq_true rfl⟩ (fun V26 H locs hp26 hM hS => ?_)
  exact w_vret (free := AE E) V26 hx hb hret hK hS hM (⟨hp26.1, ((hp5.2.toB (by omega)).trans (hp13.2.toB (by omega))).trans (hp26.2.wide (by omega) (Or.inl rfl))⟩) hlocks dX4_bindSign_29
end
section
theorem dX0_init_0 : decode cX0_init 0 = .ok (.aload_n 0, 1) := by decide +kernel
theorem dX0_init_1 : decode cX0_init 1 = .ok (.invokespecial 3, 3) := by decide +kernel
theorem dX0_init_4 : decode cX0_init 4 = .ok (.aload_n 0, 1) := by decide +kernel
theorem dX0_init_5 : decode cX0_init 5 = .ok (.bipush 8, 2) := by decide +kernel
theorem dX0_init_7 : decode cX0_init 7 = .ok (.newarray .int, 2) := by decide +kernel
theorem dX0_init_9 : decode cX0_init 9 = .ok (.putfield 9, 3) := by decide +kernel
theorem dX0_init_12 : decode cX0_init 12 = .ok (.return_, 1) := by decide +kernel
set_option maxRecDepth 20000 in
theorem ggX0_judgeText_X0_judgeTest : GoodIn wsX0_judgeText wsX0_judgeTest := goodIn_r _ [7, 1, 8, 9, 10, 11, 12, 13, 14, 15, 16, 17, 18, 6, 19, 20, 21, 22, 23, 24, 25, 26, 27, 28, 29, 30, 31, 32, 33] rfl (by decide +kernel)
set_option maxRecDepth 20000 in
theorem gX0_judgeText_X0_judgeTest : GoodIn wsX0_judgeText (wsV RX0 24 RX0 yX0_judgeTest wsX0_judgeTest) := goodIn_app (goodIn_of _ (by decide +kernel)) ggX0_judgeText_X0_judgeTest
set_option maxRecDepth 20000 in
theorem ggX0_judgeText_X3_byteAt : GoodIn wsX0_judgeText wsX3_byteAt := goodIn_r _ [13, 14, 15, 32, 33] rfl (by decide +kernel)
set_option maxRecDepth 20000 in
theorem gX0_judgeText_X3_byteAt : GoodIn wsX0_judgeText (wsV RX0 28 RX3 yX3_byteAt wsX3_byteAt) := goodIn_app (goodIn_of _ (by decide +kernel)) ggX0_judgeText_X3_byteAt
theorem dX0_judgeText_0 : decode cX0_judgeText 0 = .ok (.iconst 0, 1) := by decide +kernel
theorem dX0_judgeText_1 : decode cX0_judgeText 1 = .ok (.istore_n 2, 1) := by decide +kernel
theorem dX0_judgeText_2 : decode cX0_judgeText 2 = .ok (.iconst 1, 1) := by decide +kernel
theorem dX0_judgeText_3 : decode cX0_judgeText 3 = .ok (.istore_n 3, 1) := by decide +kernel
theorem dX0_judgeText_4 : decode cX0_judgeText 4 = .ok (.aload_n 0, 1) := by decide +kernel
theorem dX0_judgeText_5 : decode cX0_judgeText 5 = .ok (.iconst 0, 1) := by decide +kernel
theorem dX0_judgeText_6 : decode cX0_judgeText 6 = .ok (.putfield 15, 3) := by decide +kernel
theorem dX0_judgeText_9 : decode cX0_judgeText 9 = .ok (.iconst 0, 1) := by decide +kernel
theorem dX0_judgeText_10 : decode cX0_judgeText 10 = .ok (.istore 4, 2) := by decide +kernel
theorem dX0_judgeText_12 : decode cX0_judgeText 12 = .ok (.iload 4, 2) := by decide +kernel
theorem dX0_judgeText_14 : decode cX0_judgeText 14 = .ok (.aload_n 1, 1) := by decide +kernel
theorem dX0_judgeText_15 : decode cX0_judgeText 15 = .ok (.getfield 19, 3) := by decide +kernel
theorem dX0_judgeText_18 : decode cX0_judgeText 18 = .ok (.if_icmp .gt 115, 3) := by decide +kernel
theorem dX0_judgeText_21 : decode cX0_judgeText 21 = .ok (.aload_n 0, 1) := by decide +kernel
theorem dX0_judgeText_22 : decode cX0_judgeText 22 = .ok (.aload_n 1, 1) := by decide +kernel
theorem dX0_judgeText_23 : decode cX0_judgeText 23 = .ok (.invokevirtual 24, 3) := by decide +kernel
theorem dX0_judgeText_26 : decode cX0_judgeText 26 = .ok (.istore 5, 2) := by decide +kernel
theorem dX0_judgeText_28 : decode cX0_judgeText 28 = .ok (.iload 5, 2) := by decide +kernel
theorem dX0_judgeText_30 : decode cX0_judgeText 30 = .ok (.iconst (-1), 1) := by decide +kernel
theorem dX0_judgeText_31 : decode cX0_judgeText 31 = .ok (.if_icmp .ne 5, 3) := by decide +kernel
theorem dX0_judgeText_34 : decode cX0_judgeText 34 = .ok (.iconst (-1), 1) := by decide +kernel
theorem dX0_judgeText_35 : decode cX0_judgeText 35 = .ok (.ireturn, 1) := by decide +kernel
theorem dX0_judgeText_36 : decode cX0_judgeText 36 = .ok (.iload_n 3, 1) := by decide +kernel
theorem dX0_judgeText_37 : decode cX0_judgeText 37 = .ok (.ifCond .eq 13, 3) := by decide +kernel
theorem dX0_judgeText_40 : decode cX0_judgeText 40 = .ok (.iload 5, 2) := by decide +kernel
theorem dX0_judgeText_42 : decode cX0_judgeText 42 = .ok (.iconst 1, 1) := by decide +kernel
theorem dX0_judgeText_43 : decode cX0_judgeText 43 = .ok (.if_icmp .ne 7, 3) := by decide +kernel
theorem dX0_judgeText_46 : decode cX0_judgeText 46 = .ok (.iconst 1, 1) := by decide +kernel
theorem dX0_judgeText_47 : decode cX0_judgeText 47 = .ok (.goto 4, 3) := by decide +kernel
theorem dX0_judgeText_50 : decode cX0_judgeText 50 = .ok (.iconst 0, 1) := by decide +kernel
theorem dX0_judgeText_51 : decode cX0_judgeText 51 = .ok (.istore_n 3, 1) := by decide +kernel
theorem dX0_judgeText_52 : decode cX0_judgeText 52 = .ok (.aload_n 1, 1) := by decide +kernel
theorem dX0_judgeText_53 : decode cX0_judgeText 53 = .ok (.aload_n 0, 1) := by decide +kernel
theorem dX0_judgeText_54 : decode cX0_judgeText 54 = .ok (.getfield 15, 3) := by decide +kernel
theorem dX0_judgeText_57 : decode cX0_judgeText 57 = .ok (.invokevirtual 28, 3) := by decide +kernel
theorem dX0_judgeText_60 : decode cX0_judgeText 60 = .ok (.istore 6, 2) := by decide +kernel
theorem dX0_judgeText_62 : decode cX0_judgeText 62 = .ok (.aload_n 0, 1) := by decide +kernel
theorem dX0_judgeText_63 : decode cX0_judgeText 63 = .ok (.dup, 1) := by decide +kernel
theorem dX0_judgeText_64 : decode cX0_judgeText 64 = .ok (.getfield 15, 3) := by decide +kernel
theorem dX0_judgeText_67 : decode cX0_judgeText 67 = .ok (.iconst 1, 1) := by decide +kernel
theorem dX0_judgeText_68 : decode cX0_judgeText 68 = .ok (.iadd, 1) := by decide +kernel
theorem dX0_judgeText_69 : decode cX0_judgeText 69 = .ok (.putfield 15, 3) := by decide +kernel
theorem dX0_judgeText_72 : decode cX0_judgeText 72 = .ok (.iload 6, 2) := by decide +kernel
theorem dX0_judgeText_74 : decode cX0_judgeText 74 = .ok (.bipush 38, 2) := by decide +kernel
theorem dX0_judgeText_76 : decode cX0_judgeText 76 = .ok (.if_icmp .eq 19, 3) := by decide +kernel
theorem dX0_judgeText_79 : decode cX0_judgeText 79 = .ok (.iload_n 2, 1) := by decide +kernel
theorem dX0_judgeText_80 : decode cX0_judgeText 80 = .ok (.ifCond .ne 7, 3) := by decide +kernel
theorem dX0_judgeText_83 : decode cX0_judgeText 83 = .ok (.iload_n 3, 1) := by decide +kernel
theorem dX0_judgeText_84 : decode cX0_judgeText 84 = .ok (.ifCond .eq 7, 3) := by decide +kernel
theorem dX0_judgeText_87 : decode cX0_judgeText 87 = .ok (.iconst 1, 1) := by decide +kernel
theorem dX0_judgeText_88 : decode cX0_judgeText 88 = .ok (.goto 4, 3) := by decide +kernel
theorem dX0_judgeText_91 : decode cX0_judgeText 91 = .ok (.iconst 0, 1) := by decide +kernel
theorem dX0_judgeText_92 : decode cX0_judgeText 92 = .ok (.istore_n 2, 1) := by decide +kernel
theorem dX0_judgeText_93 : decode cX0_judgeText 93 = .ok (.iconst 1, 1) := by decide +kernel
theorem dX0_judgeText_94 : decode cX0_judgeText 94 = .ok (.istore_n 3, 1) := by decide +kernel
theorem dX0_judgeText_95 : decode cX0_judgeText 95 = .ok (.iload 6, 2) := by decide +kernel
theorem dX0_judgeText_97 : decode cX0_judgeText 97 = .ok (.iconst (-1), 1) := by decide +kernel
theorem dX0_judgeText_98 : decode cX0_judgeText 98 = .ok (.if_icmp .ne 13, 3) := by decide +kernel
theorem dX0_judgeText_101 : decode cX0_judgeText 101 = .ok (.iload_n 2, 1) := by decide +kernel
theorem dX0_judgeText_102 : decode cX0_judgeText 102 = .ok (.ifCond .eq 7, 3) := by decide +kernel
theorem dX0_judgeText_105 : decode cX0_judgeText 105 = .ok (.iconst 1, 1) := by decide +kernel
theorem dX0_judgeText_106 : decode cX0_judgeText 106 = .ok (.goto 4, 3) := by decide +kernel
theorem dX0_judgeText_109 : decode cX0_judgeText 109 = .ok (.iconst 0, 1) := by decide +kernel
theorem dX0_judgeText_110 : decode cX0_judgeText 110 = .ok (.ireturn, 1) := by decide +kernel
theorem dX0_judgeText_111 : decode cX0_judgeText 111 = .ok (.iload 6, 2) := by decide +kernel
theorem dX0_judgeText_113 : decode cX0_judgeText 113 = .ok (.bipush 38, 2) := by decide +kernel
theorem dX0_judgeText_115 : decode cX0_judgeText 115 = .ok (.if_icmp .eq 12, 3) := by decide +kernel
theorem dX0_judgeText_118 : decode cX0_judgeText 118 = .ok (.iload 6, 2) := by decide +kernel
theorem dX0_judgeText_120 : decode cX0_judgeText 120 = .ok (.bipush 124, 2) := by decide +kernel
theorem dX0_judgeText_122 : decode cX0_judgeText 122 = .ok (.if_icmp .eq 5, 3) := by decide +kernel
theorem dX0_judgeText_125 : decode cX0_judgeText 125 = .ok (.iconst (-1), 1) := by decide +kernel
theorem dX0_judgeText_126 : decode cX0_judgeText 126 = .ok (.ireturn, 1) := by decide +kernel
theorem dX0_judgeText_127 : decode cX0_judgeText 127 = .ok (.iinc 4 1, 3) := by decide +kernel
theorem dX0_judgeText_130 : decode cX0_judgeText 130 = .ok (.goto (-118), 3) := by decide +kernel
theorem dX0_judgeText_133 : decode cX0_judgeText 133 = .ok (.iconst (-1), 1) := by decide +kernel
theorem dX0_judgeText_134 : decode cX0_judgeText 134 = .ok (.ireturn, 1) := by decide +kernel
set_option maxRecDepth 20000 in
theorem ggX0_judgeTest_X3_byteAt : GoodIn wsX0_judgeTest wsX3_byteAt := goodIn_r _ [7, 8, 9, 27, 28] rfl (by decide +kernel)
set_option maxRecDepth 20000 in
theorem gX0_judgeTest_X3_byteAt : GoodIn wsX0_judgeTest (wsV RX0 28 RX3 yX3_byteAt wsX3_byteAt) := goodIn_app (goodIn_of _ (by decide +kernel)) ggX0_judgeTest_X3_byteAt
set_option maxRecDepth 20000 in
theorem ggX0_judgeTest_X0_takeNumber : GoodIn wsX0_judgeTest wsX0_takeNumber := goodIn_r _ [14, 1, 15, 16, 17, 18, 3, 4, 5, 6, 7, 8, 9, 25, 26, 27, 28] rfl (by decide +kernel)
set_option maxRecDepth 20000 in
theorem gX0_judgeTest_X0_takeNumber : GoodIn wsX0_judgeTest (wsV RX0 32 RX0 yX0_takeNumber wsX0_takeNumber) := goodIn_app (goodIn_of _ (by decide +kernel)) ggX0_judgeTest_X0_takeNumber
set_option maxRecDepth 20000 in
theorem ggX0_judgeTest_X0_isKind : GoodIn wsX0_judgeTest wsX0_isKind := goodIn_r _ [21] rfl (by decide +kernel)
set_option maxRecDepth 20000 in
theorem gX0_judgeTest_X0_isKind : GoodIn wsX0_judgeTest (va_wsS RX0 35 yX0_isKind wsX0_isKind) := goodIn_app (goodIn_of _ (by decide +kernel)) ggX0_judgeTest_X0_isKind
set_option maxRecDepth 20000 in
theorem ggX0_judgeTest_X0_holds : GoodIn wsX0_judgeTest wsX0_holds := goodIn_r _ [24] rfl (by decide +kernel)
set_option maxRecDepth 20000 in
theorem gX0_judgeTest_X0_holds : GoodIn wsX0_judgeTest (va_wsS RX0 39 yX0_holds wsX0_holds) := goodIn_app (goodIn_of _ (by decide +kernel)) ggX0_judgeTest_X0_holds
theorem dX0_judgeTest_0 : decode cX0_judgeTest 0 = .ok (.aload_n 1, 1) := by decide +kernel
theorem dX0_judgeTest_1 : decode cX0_judgeTest 1 = .ok (.aload_n 0, 1) := by decide +kernel
theorem dX0_judgeTest_2 : decode cX0_judgeTest 2 = .ok (.getfield 15, 3) := by decide +kernel
theorem dX0_judgeTest_5 : decode cX0_judgeTest 5 = .ok (.invokevirtual 28, 3) := by decide +kernel
theorem dX0_judgeTest_8 : decode cX0_judgeTest 8 = .ok (.bipush 33, 2) := by decide +kernel
theorem dX0_judgeTest_10 : decode cX0_judgeTest 10 = .ok (.if_icmp .ne 7, 3) := by decide +kernel
theorem dX0_judgeTest_13 : decode cX0_judgeTest 13 = .ok (.iconst 1, 1) := by decide +kernel
theorem dX0_judgeTest_14 : decode cX0_judgeTest 14 = .ok (.goto 4, 3) := by decide +kernel
theorem dX0_judgeTest_17 : decode cX0_judgeTest 17 = .ok (.iconst 0, 1) := by decide +kernel
theorem dX0_judgeTest_18 : decode cX0_judgeTest 18 = .ok (.istore_n 2, 1) := by decide +kernel
theorem dX0_judgeTest_19 : decode cX0_judgeTest 19 = .ok (.iload_n 2, 1) := by decide +kernel
theorem dX0_judgeTest_20 : decode cX0_judgeTest 20 = .ok (.ifCond .eq 13, 3) := by decide +kernel
theorem dX0_judgeTest_23 : decode cX0_judgeTest 23 = .ok (.aload_n 0, 1) := by decide +kernel
theorem dX0_judgeTest_24 : decode cX0_judgeTest 24 = .ok (.dup, 1) := by decide +kernel
theorem dX0_judgeTest_25 : decode cX0_judgeTest 25 = .ok (.getfield 15, 3) := by decide +kernel
theorem dX0_judgeTest_28 : decode cX0_judgeTest 28 = .ok (.iconst 1, 1) := by decide +kernel
theorem dX0_judgeTest_29 : decode cX0_judgeTest 29 = .ok (.iadd, 1) := by decide +kernel
theorem dX0_judgeTest_30 : decode cX0_judgeTest 30 = .ok (.putfield 15, 3) := by decide +kernel
theorem dX0_judgeTest_33 : decode cX0_judgeTest 33 = .ok (.aload_n 1, 1) := by decide +kernel
theorem dX0_judgeTest_34 : decode cX0_judgeTest 34 = .ok (.aload_n 0, 1) := by decide +kernel
theorem dX0_judgeTest_35 : decode cX0_judgeTest 35 = .ok (.getfield 15, 3) := by decide +kernel
theorem dX0_judgeTest_38 : decode cX0_judgeTest 38 = .ok (.invokevirtual 28, 3) := by decide +kernel
theorem dX0_judgeTest_41 : decode cX0_judgeTest 41 = .ok (.bipush 97, 2) := by decide +kernel
theorem dX0_judgeTest_43 : decode cX0_judgeTest 43 = .ok (.isub, 1) := by decide +kernel
theorem dX0_judgeTest_44 : decode cX0_judgeTest 44 = .ok (.istore_n 3, 1) := by decide +kernel
theorem dX0_judgeTest_45 : decode cX0_judgeTest 45 = .ok (.aload_n 1, 1) := by decide +kernel
theorem dX0_judgeTest_46 : decode cX0_judgeTest 46 = .ok (.aload_n 0, 1) := by decide +kernel
theorem dX0_judgeTest_47 : decode cX0_judgeTest 47 = .ok (.getfield 15, 3) := by decide +kernel
theorem dX0_judgeTest_50 : decode cX0_judgeTest 50 = .ok (.iconst 1, 1) := by decide +kernel
theorem dX0_judgeTest_51 : decode cX0_judgeTest 51 = .ok (.iadd, 1) := by decide +kernel
theorem dX0_judgeTest_52 : decode cX0_judgeTest 52 = .ok (.invokevirtual 28, 3) := by decide +kernel
theorem dX0_judgeTest_55 : decode cX0_judgeTest 55 = .ok (.istore 4, 2) := by decide +kernel
theorem dX0_judgeTest_57 : decode cX0_judgeTest 57 = .ok (.aload_n 0, 1) := by decide +kernel
theorem dX0_judgeTest_58 : decode cX0_judgeTest 58 = .ok (.dup, 1) := by decide +kernel
theorem dX0_judgeTest_59 : decode cX0_judgeTest 59 = .ok (.getfield 15, 3) := by decide +kernel
theorem dX0_judgeTest_62 : decode cX0_judgeTest 62 = .ok (.iconst 2, 1) := by decide +kernel
theorem dX0_judgeTest_63 : decode cX0_judgeTest 63 = .ok (.iadd, 1) := by decide +kernel
theorem dX0_judgeTest_64 : decode cX0_judgeTest 64 = .ok (.putfield 15, 3) := by decide +kernel
theorem dX0_judgeTest_67 : decode cX0_judgeTest 67 = .ok (.aload_n 0, 1) := by decide +kernel
theorem dX0_judgeTest_68 : decode cX0_judgeTest 68 = .ok (.aload_n 1, 1) := by decide +kernel
theorem dX0_judgeTest_69 : decode cX0_judgeTest 69 = .ok (.invokevirtual 32, 3) := by decide +kernel
theorem dX0_judgeTest_72 : decode cX0_judgeTest 72 = .ok (.istore 5, 2) := by decide +kernel
theorem dX0_judgeTest_74 : decode cX0_judgeTest 74 = .ok (.iload_n 3, 1) := by decide +kernel
theorem dX0_judgeTest_75 : decode cX0_judgeTest 75 = .ok (.ifCond .lt 23, 3) := by decide +kernel
theorem dX0_judgeTest_78 : decode cX0_judgeTest 78 = .ok (.iload_n 3, 1) := by decide +kernel
theorem dX0_judgeTest_79 : decode cX0_judgeTest 79 = .ok (.bipush 8, 2) := by decide +kernel
theorem dX0_judgeTest_81 : decode cX0_judgeTest 81 = .ok (.if_icmp .ge 17, 3) := by decide +kernel
theorem dX0_judgeTest_84 : decode cX0_judgeTest 84 = .ok (.iload 4, 2) := by decide +kernel
theorem dX0_judgeTest_86 : decode cX0_judgeTest 86 = .ok (.invokestatic 35, 3) := by decide +kernel
theorem dX0_judgeTest_89 : decode cX0_judgeTest 89 = .ok (.ifCond .eq 9, 3) := by decide +kernel
theorem dX0_judgeTest_92 : decode cX0_judgeTest 92 = .ok (.iload 5, 2) := by decide +kernel
theorem dX0_judgeTest_94 : decode cX0_judgeTest 94 = .ok (.iconst (-1), 1) := by decide +kernel
theorem dX0_judgeTest_95 : decode cX0_judgeTest 95 = .ok (.if_icmp .ne 5, 3) := by decide +kernel
theorem dX0_judgeTest_98 : decode cX0_judgeTest 98 = .ok (.iconst (-1), 1) := by decide +kernel
theorem dX0_judgeTest_99 : decode cX0_judgeTest 99 = .ok (.ireturn, 1) := by decide +kernel
theorem dX0_judgeTest_100 : decode cX0_judgeTest 100 = .ok (.aload_n 0, 1) := by decide +kernel
theorem dX0_judgeTest_101 : decode cX0_judgeTest 101 = .ok (.getfield 9, 3) := by decide +kernel
theorem dX0_judgeTest_104 : decode cX0_judgeTest 104 = .ok (.iload_n 3, 1) := by decide +kernel
theorem dX0_judgeTest_105 : decode cX0_judgeTest 105 = .ok (.iaload, 1) := by decide +kernel
theorem dX0_judgeTest_106 : decode cX0_judgeTest 106 = .ok (.iload 4, 2) := by decide +kernel
theorem dX0_judgeTest_108 : decode cX0_judgeTest 108 = .ok (.iload 5, 2) := by decide +kernel
theorem dX0_judgeTest_110 : decode cX0_judgeTest 110 = .ok (.invokestatic 39, 3) := by decide +kernel
theorem dX0_judgeTest_113 : decode cX0_judgeTest 113 = .ok (.iload_n 2, 1) := by decide +kernel
theorem dX0_judgeTest_114 : decode cX0_judgeTest 114 = .ok (.if_icmp .eq 7, 3) := by decide +kernel
theorem dX0_judgeTest_117 : decode cX0_judgeTest 117 = .ok (.iconst 1, 1) := by decide +kernel
theorem dX0_judgeTest_118 : decode cX0_judgeTest 118 = .ok (.goto 4, 3) := by decide +kernel
theorem dX0_judgeTest_121 : decode cX0_judgeTest 121 = .ok (.iconst 0, 1) := by decide +kernel
theorem dX0_judgeTest_122 : decode cX0_judgeTest 122 = .ok (.ireturn, 1) := by decide +kernel
set_option maxRecDepth 20000 in
theorem ggX0_takeNumber_X3_byteAt : GoodIn wsX0_takeNumber wsX3_byteAt := goodIn_r _ [10, 11, 12, 15, 16] rfl (by decide +kernel)
set_option maxRecDepth 20000 in
theorem gX0_takeNumber_X3_byteAt : GoodIn wsX0_takeNumber (wsV RX0 28 RX3 yX3_byteAt wsX3_byteAt) := goodIn_app (goodIn_of _ (by decide +kernel)) ggX0_takeNumber_X3_byteAt
theorem dX0_takeNumber_0 : decode cX0_takeNumber 0 = .ok (.iconst (-1), 1) := by decide +kernel
theorem dX0_takeNumber_1 : decode cX0_takeNumber 1 = .ok (.istore_n 2, 1) := by decide +kernel
theorem dX0_takeNumber_2 : decode cX0_takeNumber 2 = .ok (.iconst 0, 1) := by decide +kernel
theorem dX0_takeNumber_3 : decode cX0_takeNumber 3 = .ok (.istore_n 3, 1) := by decide +kernel
theorem dX0_takeNumber_4 : decode cX0_takeNumber 4 = .ok (.iload_n 3, 1) := by decide +kernel
theorem dX0_takeNumber_5 : decode cX0_takeNumber 5 = .ok (.bipush 6, 2) := by decide +kernel
theorem dX0_takeNumber_7 : decode cX0_takeNumber 7 = .ok (.if_icmp .ge 58, 3) := by decide +kernel
theorem dX0_takeNumber_10 : decode cX0_takeNumber 10 = .ok (.aload_n 1, 1) := by decide +kernel
theorem dX0_takeNumber_11 : decode cX0_takeNumber 11 = .ok (.aload_n 0, 1) := by decide +kernel
theorem dX0_takeNumber_12 : decode cX0_takeNumber 12 = .ok (.getfield 15, 3) := by decide +kernel
theorem dX0_takeNumber_15 : decode cX0_takeNumber 15 = .ok (.invokevirtual 28, 3) := by decide +kernel
theorem dX0_takeNumber_18 : decode cX0_takeNumber 18 = .ok (.bipush 48, 2) := by decide +kernel
theorem dX0_takeNumber_20 : decode cX0_takeNumber 20 = .ok (.isub, 1) := by decide +kernel
theorem dX0_takeNumber_21 : decode cX0_takeNumber 21 = .ok (.istore 4, 2) := by decide +kernel
theorem dX0_takeNumber_23 : decode cX0_takeNumber 23 = .ok (.iload 4, 2) := by decide +kernel
theorem dX0_takeNumber_25 : decode cX0_takeNumber 25 = .ok (.ifCond .lt 10, 3) := by decide +kernel
theorem dX0_takeNumber_28 : decode cX0_takeNumber 28 = .ok (.iload 4, 2) := by decide +kernel
theorem dX0_takeNumber_30 : decode cX0_takeNumber 30 = .ok (.bipush 9, 2) := by decide +kernel
theorem dX0_takeNumber_32 : decode cX0_takeNumber 32 = .ok (.if_icmp .le 5, 3) := by decide +kernel
theorem dX0_takeNumber_35 : decode cX0_takeNumber 35 = .ok (.iload_n 2, 1) := by decide +kernel
theorem dX0_takeNumber_36 : decode cX0_takeNumber 36 = .ok (.ireturn, 1) := by decide +kernel
theorem dX0_takeNumber_37 : decode cX0_takeNumber 37 = .ok (.iconst 0, 1) := by decide +kernel
theorem dX0_takeNumber_38 : decode cX0_takeNumber 38 = .ok (.iload_n 2, 1) := by decide +kernel
theorem dX0_takeNumber_39 : decode cX0_takeNumber 39 = .ok (.invokestatic 43, 3) := by decide +kernel
theorem dX0_takeNumber_42 : decode cX0_takeNumber 42 = .ok (.bipush 10, 2) := by decide +kernel
theorem dX0_takeNumber_44 : decode cX0_takeNumber 44 = .ok (.imul, 1) := by decide +kernel
theorem dX0_takeNumber_45 : decode cX0_takeNumber 45 = .ok (.iload 4, 2) := by decide +kernel
theorem dX0_takeNumber_47 : decode cX0_takeNumber 47 = .ok (.iadd, 1) := by decide +kernel
theorem dX0_takeNumber_48 : decode cX0_takeNumber 48 = .ok (.istore_n 2, 1) := by decide +kernel
theorem dX0_takeNumber_49 : decode cX0_takeNumber 49 = .ok (.aload_n 0, 1) := by decide +kernel
theorem dX0_takeNumber_50 : decode cX0_takeNumber 50 = .ok (.dup, 1) := by decide +kernel
theorem dX0_takeNumber_51 : decode cX0_takeNumber 51 = .ok (.getfield 15, 3) := by decide +kernel
theorem dX0_takeNumber_54 : decode cX0_takeNumber 54 = .ok (.iconst 1, 1) := by decide +kernel
theorem dX0_takeNumber_55 : decode cX0_takeNumber 55 = .ok (.iadd, 1) := by decide +kernel
theorem dX0_takeNumber_56 : decode cX0_takeNumber 56 = .ok (.putfield 15, 3) := by decide +kernel
theorem dX0_takeNumber_59 : decode cX0_takeNumber 59 = .ok (.iinc 3 1, 3) := by decide +kernel
theorem dX0_takeNumber_62 : decode cX0_takeNumber 62 = .ok (.goto (-58), 3) := by decide +kernel
theorem dX0_takeNumber_65 : decode cX0_takeNumber 65 = .ok (.iload_n 2, 1) := by decide +kernel
theorem dX0_takeNumber_66 : decode cX0_takeNumber 66 = .ok (.ireturn, 1) := by decide +kernel
theorem dX0_isKind_0 : decode cX0_isKind 0 = .ok (.iload_n 0, 1) := by decide +kernel
theorem dX0_isKind_1 : decode cX0_isKind 1 = .ok (.bipush 60, 2) := by decide +kernel
theorem dX0_isKind_3 : decode cX0_isKind 3 = .ok (.if_icmp .eq 21, 3) := by decide +kernel
theorem dX0_isKind_6 : decode cX0_isKind 6 = .ok (.iload_n 0, 1) := by decide +kernel
theorem dX0_isKind_7 : decode cX0_isKind 7 = .ok (.bipush 61, 2) := by decide +kernel
theorem dX0_isKind_9 : decode cX0_isKind 9 = .ok (.if_icmp .eq 15, 3) := by decide +kernel
theorem dX0_isKind_12 : decode cX0_isKind 12 = .ok (.iload_n 0, 1) := by decide +kernel
theorem dX0_isKind_13 : decode cX0_isKind 13 = .ok (.bipush 62, 2) := by decide +kernel
theorem dX0_isKind_15 : decode cX0_isKind 15 = .ok (.if_icmp .eq 9, 3) := by decide +kernel
theorem dX0_isKind_18 : decode cX0_isKind 18 = .ok (.iload_n 0, 1) := by decide +kernel
theorem dX0_isKind_19 : decode cX0_isKind 19 = .ok (.bipush 35, 2) := by decide +kernel
theorem dX0_isKind_21 : decode cX0_isKind 21 = .ok (.if_icmp .ne 7, 3) := by decide +kernel
theorem dX0_isKind_24 : decode cX0_isKind 24 = .ok (.iconst 1, 1) := by decide +kernel
theorem dX0_isKind_25 : decode cX0_isKind 25 = .ok (.goto 4, 3) := by decide +kernel
theorem dX0_isKind_28 : decode cX0_isKind 28 = .ok (.iconst 0, 1) := by decide +kernel
theorem dX0_isKind_29 : decode cX0_isKind 29 = .ok (.ireturn, 1) := by decide +kernel
theorem dX0_holds_0 : decode cX0_holds 0 = .ok (.iload_n 1, 1) := by decide +kernel
theorem dX0_holds_1 : decode cX0_holds 1 = .ok (.tableswitch 60 60 62 #[27, 38, 49], 27) := by decide +kernel
theorem dX0_holds_28 : decode cX0_holds 28 = .ok (.iload_n 0, 1) := by decide +kernel
theorem dX0_holds_29 : decode cX0_holds 29 = .ok (.iload_n 2, 1) := by decide +kernel
theorem dX0_holds_30 : decode cX0_holds 30 = .ok (.if_icmp .ge 7, 3) := by decide +kernel
theorem dX0_holds_33 : decode cX0_holds 33 = .ok (.iconst 1, 1) := by decide +kernel
theorem dX0_holds_34 : decode cX0_holds 34 = .ok (.goto 4, 3) := by decide +kernel
theorem dX0_holds_37 : decode cX0_holds 37 = .ok (.iconst 0, 1) := by decide +kernel
theorem dX0_holds_38 : decode cX0_holds 38 = .ok (.ireturn, 1) := by decide +kernel
theorem dX0_holds_39 : decode cX0_holds 39 = .ok (.iload_n 0, 1) := by decide +kernel
theorem dX0_holds_40 : decode cX0_holds 40 = .ok (.iload_n 2, 1) := by decide +kernel
theorem dX0_holds_41 : decode cX0_holds 41 = .ok (.if_icmp .ne 7, 3) := by decide +kernel
theorem dX0_holds_44 : decode cX0_holds 44 = .ok (.iconst 1, 1) := by decide +kernel
theorem dX0_holds_45 : decode cX0_holds 45 = .ok (.goto 4, 3) := by decide +kernel
theorem dX0_holds_48 : decode cX0_holds 48 = .ok (.iconst 0, 1) := by decide +kernel
theorem dX0_holds_49 : decode cX0_holds 49 = .ok (.ireturn, 1) := by decide +kernel
theorem dX0_holds_50 : decode cX0_holds 50 = .ok (.iload_n 0, 1) := by decide +kernel
theorem dX0_holds_51 : decode cX0_holds 51 = .ok (.iload_n 2, 1) := by decide +kernel
theorem dX0_holds_52 : decode cX0_holds 52 = .ok (.if_icmp .le 7, 3) := by decide +kernel
theorem dX0_holds_55 : decode cX0_holds 55 = .ok (.iconst 1, 1) := by decide +kernel
theorem dX0_holds_56 : decode cX0_holds 56 = .ok (.goto 4, 3) := by decide +kernel
theorem dX0_holds_59 : decode cX0_holds 59 = .ok (.iconst 0, 1) := by decide +kernel
theorem dX0_holds_60 : decode cX0_holds 60 = .ok (.ireturn, 1) := by decide +kernel
theorem dX0_holds_61 : decode cX0_holds 61 = .ok (.iload_n 2, 1) := by decide +kernel
theorem dX0_holds_62 : decode cX0_holds 62 = .ok (.ifCond .ne 15, 3) := by decide +kernel
theorem dX0_holds_65 : decode cX0_holds 65 = .ok (.iload_n 0, 1) := by decide +kernel
theorem dX0_holds_66 : decode cX0_holds 66 = .ok (.ifCond .ne 7, 3) := by decide +kernel
theorem dX0_holds_69 : decode cX0_holds 69 = .ok (.iconst 1, 1) := by decide +kernel
theorem dX0_holds_70 : decode cX0_holds 70 = .ok (.goto 18, 3) := by decide +kernel
theorem dX0_holds_73 : decode cX0_holds 73 = .ok (.iconst 0, 1) := by decide +kernel
theorem dX0_holds_74 : decode cX0_holds 74 = .ok (.goto 14, 3) := by decide +kernel
theorem dX0_holds_77 : decode cX0_holds 77 = .ok (.iload_n 0, 1) := by decide +kernel
theorem dX0_holds_78 : decode cX0_holds 78 = .ok (.iload_n 2, 1) := by decide +kernel
theorem dX0_holds_79 : decode cX0_holds 79 = .ok (.irem, 1) := by decide +kernel
theorem dX0_holds_80 : decode cX0_holds 80 = .ok (.ifCond .ne 7, 3) := by decide +kernel
theorem dX0_holds_83 : decode cX0_holds 83 = .ok (.iconst 1, 1) := by decide +kernel
theorem dX0_holds_84 : decode cX0_holds 84 = .ok (.goto 4, 3) := by decide +kernel
theorem dX0_holds_87 : decode cX0_holds 87 = .ok (.iconst 0, 1) := by decide +kernel
theorem dX0_holds_88 : decode cX0_holds 88 = .ok (.ireturn, 1) := by decide +kernel
end
section
set_option maxRecDepth 20000 in
theorem ggX1_init_X3_init : GoodIn wsX1_init wsX3_init := goodIn_r _ [11, 12, 2, 3, 13, 14, 15, 16, 17, 18, 19, 20] rfl (by decide +kernel)
set_option maxRecDepth 20000 in
theorem gX1_init_X3_init : GoodIn wsX1_init (wsX3_init) := ggX1_init_X3_init
theorem dX1_init_0 : decode cX1_init 0 = .ok (.aload_n 0, 1) := by decide +kernel
theorem dX1_init_1 : decode cX1_init 1 = .ok (.invokespecial 3, 3) := by decide +kernel
theorem dX1_init_4 : decode cX1_init 4 = .ok (.aload_n 0, 1) := by decide +kernel
theorem dX1_init_5 : decode cX1_init 5 = .ok (.new 9, 3) := by decide +kernel
theorem dX1_init_8 : decode cX1_init 8 = .ok (.dup, 1) := by decide +kernel
theorem dX1_init_9 : decode cX1_init 9 = .ok (.bipush 60, 2) := by decide +kernel
theorem dX1_init_11 : decode cX1_init 11 = .ok (.invokespecial 11, 3) := by decide +kernel
theorem dX1_init_14 : decode cX1_init 14 = .ok (.putfield 14, 3) := by decide +kernel
theorem dX1_init_17 : decode cX1_init 17 = .ok (.aload_n 0, 1) := by decide +kernel
theorem dX1_init_18 : decode cX1_init 18 = .ok (.new 9, 3) := by decide +kernel
theorem dX1_init_21 : decode cX1_init 21 = .ok (.dup, 1) := by decide +kernel
theorem dX1_init_22 : decode cX1_init 22 = .ok (.bipush 32, 2) := by decide +kernel
theorem dX1_init_24 : decode cX1_init 24 = .ok (.invokespecial 11, 3) := by decide +kernel
theorem dX1_init_27 : decode cX1_init 27 = .ok (.putfield 20, 3) := by decide +kernel
theorem dX1_init_30 : decode cX1_init 30 = .ok (.return_, 1) := by decide +kernel
theorem dX1_isOfOthers_0 : decode cX1_isOfOthers 0 = .ok (.aload_n 0, 1) := by decide +kernel
theorem dX1_isOfOthers_1 : decode cX1_isOfOthers 1 = .ok (.getfield 20, 3) := by decide +kernel
theorem dX1_isOfOthers_4 : decode cX1_isOfOthers 4 = .ok (.getfield 23, 3) := by decide +kernel
theorem dX1_isOfOthers_7 : decode cX1_isOfOthers 7 = .ok (.ifCond .le 7, 3) := by decide +kernel
theorem dX1_isOfOthers_10 : decode cX1_isOfOthers 10 = .ok (.iconst 1, 1) := by decide +kernel
theorem dX1_isOfOthers_11 : decode cX1_isOfOthers 11 = .ok (.goto 4, 3) := by decide +kernel
theorem dX1_isOfOthers_14 : decode cX1_isOfOthers 14 = .ok (.iconst 0, 1) := by decide +kernel
theorem dX1_isOfOthers_15 : decode cX1_isOfOthers 15 = .ok (.ireturn, 1) := by decide +kernel
set_option maxRecDepth 20000 in
theorem ggX1_takeOver_X3_takeOver : GoodIn wsX1_takeOver wsX3_takeOver := goodIn_r _ [7, 8, 9, 10, 11, 6, 12, 13, 14, 15, 16, 17, 20, 21] rfl (by decide +kernel)
set_option maxRecDepth 20000 in
theorem gX1_takeOver_X3_takeOver : GoodIn wsX1_takeOver (wsV RX1 27 RX3 yX3_takeOver wsX3_takeOver) := goodIn_app (goodIn_of _ (by decide +kernel)) ggX1_takeOver_X3_takeOver
theorem dX1_takeOver_0 : decode cX1_takeOver 0 = .ok (.aload_n 0, 1) := by decide +kernel
theorem dX1_takeOver_1 : decode cX1_takeOver 1 = .ok (.getfield 14, 3) := by decide +kernel
theorem dX1_takeOver_4 : decode cX1_takeOver 4 = .ok (.aload_n 1, 1) := by decide +kernel
theorem dX1_takeOver_5 : decode cX1_takeOver 5 = .ok (.getfield 14, 3) := by decide +kernel
theorem dX1_takeOver_8 : decode cX1_takeOver 8 = .ok (.invokevirtual 27, 3) := by decide +kernel
theorem dX1_takeOver_11 : decode cX1_takeOver 11 = .ok (.aload_n 0, 1) := by decide +kernel
theorem dX1_takeOver_12 : decode cX1_takeOver 12 = .ok (.getfield 20, 3) := by decide +kernel
theorem dX1_takeOver_15 : decode cX1_takeOver 15 = .ok (.aload_n 1, 1) := by decide +kernel
theorem dX1_takeOver_16 : decode cX1_takeOver 16 = .ok (.getfield 20, 3) := by decide +kernel
theorem dX1_takeOver_19 : decode cX1_takeOver 19 = .ok (.invokevirtual 27, 3) := by decide +kernel
theorem dX1_takeOver_22 : decode cX1_takeOver 22 = .ok (.return_, 1) := by decide +kernel
set_option maxRecDepth 20000 in
theorem ggX1_putOn_X3_push : GoodIn wsX1_putOn wsX3_push := goodIn_r _ [8, 9, 10, 30, 31] rfl (by decide +kernel)
set_option maxRecDepth 20000 in
theorem gX1_putOn_X3_push : GoodIn wsX1_putOn (wsV RX1 31 RX3 yX3_push wsX3_push) := goodIn_app (goodIn_of _ (by decide +kernel)) ggX1_putOn_X3_push
set_option maxRecDepth 20000 in
theorem ggX1_putOn_X3_pushAll : GoodIn wsX1_putOn wsX3_pushAll := goodIn_r _ [14, 9, 15, 16, 17, 7, 18, 10, 19, 20, 21, 22, 30, 31] rfl (by decide +kernel)
set_option maxRecDepth 20000 in
theorem gX1_putOn_X3_pushAll : GoodIn wsX1_putOn (wsV RX1 34 RX3 yX3_pushAll wsX3_pushAll) := goodIn_app (goodIn_of _ (by decide +kernel)) ggX1_putOn_X3_pushAll
set_option maxRecDepth 20000 in
theorem ggX1_putOn_X1_isOfOthers : GoodIn wsX1_putOn wsX1_isOfOthers := goodIn_r _ [27, 3, 2, 28, 29, 30, 31] rfl (by decide +kernel)
set_option maxRecDepth 20000 in
theorem gX1_putOn_X1_isOfOthers : GoodIn wsX1_putOn (wsV RX1 37 RX1 yX1_isOfOthers wsX1_isOfOthers) := goodIn_app (goodIn_of _ (by decide +kernel)) ggX1_putOn_X1_isOfOthers
theorem dX1_putOn_0 : decode cX1_putOn 0 = .ok (.aload_n 1, 1) := by decide +kernel
theorem dX1_putOn_1 : decode cX1_putOn 1 = .ok (.iconst 2, 1) := by decide +kernel
theorem dX1_putOn_2 : decode cX1_putOn 2 = .ok (.invokevirtual 31, 3) := by decide +kernel
theorem dX1_putOn_5 : decode cX1_putOn 5 = .ok (.aload_n 1, 1) := by decide +kernel
theorem dX1_putOn_6 : decode cX1_putOn 6 = .ok (.aload_n 0, 1) := by decide +kernel
theorem dX1_putOn_7 : decode cX1_putOn 7 = .ok (.getfield 14, 3) := by decide +kernel
theorem dX1_putOn_10 : decode cX1_putOn 10 = .ok (.getfield 23, 3) := by decide +kernel
theorem dX1_putOn_13 : decode cX1_putOn 13 = .ok (.invokevirtual 31, 3) := by decide +kernel
theorem dX1_putOn_16 : decode cX1_putOn 16 = .ok (.aload_n 1, 1) := by decide +kernel
theorem dX1_putOn_17 : decode cX1_putOn 17 = .ok (.aload_n 0, 1) := by decide +kernel
theorem dX1_putOn_18 : decode cX1_putOn 18 = .ok (.getfield 14, 3) := by decide +kernel
theorem dX1_putOn_21 : decode cX1_putOn 21 = .ok (.invokevirtual 34, 3) := by decide +kernel
theorem dX1_putOn_24 : decode cX1_putOn 24 = .ok (.aload_n 0, 1) := by decide +kernel
theorem dX1_putOn_25 : decode cX1_putOn 25 = .ok (.invokevirtual 37, 3) := by decide +kernel
theorem dX1_putOn_28 : decode cX1_putOn 28 = .ok (.ifCond .eq 22, 3) := by decide +kernel
theorem dX1_putOn_31 : decode cX1_putOn 31 = .ok (.aload_n 1, 1) := by decide +kernel
theorem dX1_putOn_32 : decode cX1_putOn 32 = .ok (.iconst 4, 1) := by decide +kernel
theorem dX1_putOn_33 : decode cX1_putOn 33 = .ok (.invokevirtual 31, 3) := by decide +kernel
theorem dX1_putOn_36 : decode cX1_putOn 36 = .ok (.aload_n 1, 1) := by decide +kernel
theorem dX1_putOn_37 : decode cX1_putOn 37 = .ok (.bipush 32, 2) := by decide +kernel
theorem dX1_putOn_39 : decode cX1_putOn 39 = .ok (.invokevirtual 31, 3) := by decide +kernel
theorem dX1_putOn_42 : decode cX1_putOn 42 = .ok (.aload_n 1, 1) := by decide +kernel
theorem dX1_putOn_43 : decode cX1_putOn 43 = .ok (.aload_n 0, 1) := by decide +kernel
theorem dX1_putOn_44 : decode cX1_putOn 44 = .ok (.getfield 20, 3) := by decide +kernel
theorem dX1_putOn_47 : decode cX1_putOn 47 = .ok (.invokevirtual 34, 3) := by decide +kernel
theorem dX1_putOn_50 : decode cX1_putOn 50 = .ok (.aload_n 1, 1) := by decide +kernel
theorem dX1_putOn_51 : decode cX1_putOn 51 = .ok (.iconst 0, 1) := by decide +kernel
theorem dX1_putOn_52 : decode cX1_putOn 52 = .ok (.invokevirtual 31, 3) := by decide +kernel
theorem dX1_putOn_55 : decode cX1_putOn 55 = .ok (.return_, 1) := by decide +kernel
end
section
set_option maxRecDepth 20000 in
theorem ggX6_init_X3_init : GoodIn wsX6_init wsX3_init := goodIn_r _ [15, 16, 2, 3, 17, 18, 19, 20, 21, 22, 30, 31] rfl (by decide +kernel)
set_option maxRecDepth 20000 in
theorem gX6_init_X3_init : GoodIn wsX6_init (wsX3_init) := ggX6_init_X3_init
set_option maxRecDepth 20000 in
theorem ggX6_init_X1_init : GoodIn wsX6_init wsX1_init := goodIn_r _ [24, 25, 2, 3, 26, 5, 6, 27, 28, 29, 14, 15, 16, 17, 18, 19, 20, 21, 22, 30, 31, 37, 38] rfl (by decide +kernel)
set_option maxRecDepth 20000 in
theorem gX6_init_X1_init_n29 : GoodIn wsX6_init (wsX1_init) := ggX6_init_X1_init
theorem dX6_init_0 : decode cX6_init 0 = .ok (.aload_n 0, 1) := by decide +kernel
theorem dX6_init_1 : decode cX6_init 1 = .ok (.invokespecial 3, 3) := by decide +kernel
theorem dX6_init_4 : decode cX6_init 4 = .ok (.aload_n 0, 1) := by decide +kernel
theorem dX6_init_5 : decode cX6_init 5 = .ok (.new 9, 3) := by decide +kernel
theorem dX6_init_8 : decode cX6_init 8 = .ok (.dup, 1) := by decide +kernel
theorem dX6_init_9 : decode cX6_init 9 = .ok (.bipush 60, 2) := by decide +kernel
theorem dX6_init_11 : decode cX6_init 11 = .ok (.invokespecial 11, 3) := by decide +kernel
theorem dX6_init_14 : decode cX6_init 14 = .ok (.putfield 14, 3) := by decide +kernel
theorem dX6_init_17 : decode cX6_init 17 = .ok (.aload_n 0, 1) := by decide +kernel
theorem dX6_init_18 : decode cX6_init 18 = .ok (.new 9, 3) := by decide +kernel
theorem dX6_init_21 : decode cX6_init 21 = .ok (.dup, 1) := by decide +kernel
theorem dX6_init_22 : decode cX6_init 22 = .ok (.bipush 32, 2) := by decide +kernel
theorem dX6_init_24 : decode cX6_init 24 = .ok (.invokespecial 11, 3) := by decide +kernel
theorem dX6_init_27 : decode cX6_init 27 = .ok (.putfield 20, 3) := by decide +kernel
theorem dX6_init_30 : decode cX6_init 30 = .ok (.aload_n 0, 1) := by decide +kernel
theorem dX6_init_31 : decode cX6_init 31 = .ok (.bipush 10, 2) := by decide +kernel
theorem dX6_init_33 : decode cX6_init 33 = .ok (.anewarray 23, 3) := by decide +kernel
theorem dX6_init_36 : decode cX6_init 36 = .ok (.putfield 25, 3) := by decide +kernel
theorem dX6_init_39 : decode cX6_init 39 = .ok (.iconst 0, 1) := by decide +kernel
theorem dX6_init_40 : decode cX6_init 40 = .ok (.istore_n 1, 1) := by decide +kernel
theorem dX6_init_41 : decode cX6_init 41 = .ok (.iload_n 1, 1) := by decide +kernel
theorem dX6_init_42 : decode cX6_init 42 = .ok (.bipush 10, 2) := by decide +kernel
theorem dX6_init_44 : decode cX6_init 44 = .ok (.if_icmp .ge 22, 3) := by decide +kernel
theorem dX6_init_47 : decode cX6_init 47 = .ok (.aload_n 0, 1) := by decide +kernel
theorem dX6_init_48 : decode cX6_init 48 = .ok (.getfield 25, 3) := by decide +kernel
theorem dX6_init_51 : decode cX6_init 51 = .ok (.iload_n 1, 1) := by decide +kernel
theorem dX6_init_52 : decode cX6_init 52 = .ok (.new 23, 3) := by decide +kernel
theorem dX6_init_55 : decode cX6_init 55 = .ok (.dup, 1) := by decide +kernel
theorem dX6_init_56 : decode cX6_init 56 = .ok (.invokespecial 29, 3) := by decide +kernel
theorem dX6_init_59 : decode cX6_init 59 = .ok (.aastore, 1) := by decide +kernel
theorem dX6_init_60 : decode cX6_init 60 = .ok (.iinc 1 1, 3) := by decide +kernel
theorem dX6_init_63 : decode cX6_init 63 = .ok (.goto (-22), 3) := by decide +kernel
theorem dX6_init_66 : decode cX6_init 66 = .ok (.return_, 1) := by decide +kernel
theorem dX6_isFull_0 : decode cX6_isFull 0 = .ok (.aload_n 0, 1) := by decide +kernel
theorem dX6_isFull_1 : decode cX6_isFull 1 = .ok (.getfield 30, 3) := by decide +kernel
theorem dX6_isFull_4 : decode cX6_isFull 4 = .ok (.bipush 10, 2) := by decide +kernel
theorem dX6_isFull_6 : decode cX6_isFull 6 = .ok (.if_icmp .lt 7, 3) := by decide +kernel
theorem dX6_isFull_9 : decode cX6_isFull 9 = .ok (.iconst 1, 1) := by decide +kernel
theorem dX6_isFull_10 : decode cX6_isFull 10 = .ok (.goto 4, 3) := by decide +kernel
theorem dX6_isFull_13 : decode cX6_isFull 13 = .ok (.iconst 0, 1) := by decide +kernel
theorem dX6_isFull_14 : decode cX6_isFull 14 = .ok (.ireturn, 1) := by decide +kernel
set_option maxRecDepth 20000 in
theorem ggX6_limitTold_X1_isOfOthers : GoodIn wsX6_limitTold wsX1_isOfOthers := goodIn_r _ [9, 10, 11, 17, 18, 19, 20] rfl (by decide +kernel)
set_option maxRecDepth 20000 in
theorem gX6_limitTold_X1_isOfOthers : GoodIn wsX6_limitTold (wsV RX6 40 RX1 yX1_isOfOthers wsX1_isOfOthers) := goodIn_app (goodIn_of _ (by decide +kernel)) ggX6_limitTold_X1_isOfOthers
theorem dX6_limitTold_0 : decode cX6_limitTold 0 = .ok (.iload_n 1, 1) := by decide +kernel
theorem dX6_limitTold_1 : decode cX6_limitTold 1 = .ok (.ifCond .lt 11, 3) := by decide +kernel
theorem dX6_limitTold_4 : decode cX6_limitTold 4 = .ok (.iload_n 1, 1) := by decide +kernel
theorem dX6_limitTold_5 : decode cX6_limitTold 5 = .ok (.aload_n 0, 1) := by decide +kernel
theorem dX6_limitTold_6 : decode cX6_limitTold 6 = .ok (.getfield 30, 3) := by decide +kernel
theorem dX6_limitTold_9 : decode cX6_limitTold 9 = .ok (.if_icmp .lt 5, 3) := by decide +kernel
theorem dX6_limitTold_12 : decode cX6_limitTold 12 = .ok (.iconst 0, 1) := by decide +kernel
theorem dX6_limitTold_13 : decode cX6_limitTold 13 = .ok (.ireturn, 1) := by decide +kernel
theorem dX6_limitTold_14 : decode cX6_limitTold 14 = .ok (.aload_n 0, 1) := by decide +kernel
theorem dX6_limitTold_15 : decode cX6_limitTold 15 = .ok (.getfield 25, 3) := by decide +kernel
theorem dX6_limitTold_18 : decode cX6_limitTold 18 = .ok (.iload_n 1, 1) := by decide +kernel
theorem dX6_limitTold_19 : decode cX6_limitTold 19 = .ok (.aaload, 1) := by decide +kernel
theorem dX6_limitTold_20 : decode cX6_limitTold 20 = .ok (.getfield 34, 3) := by decide +kernel
theorem dX6_limitTold_23 : decode cX6_limitTold 23 = .ok (.getfield 37, 3) := by decide +kernel
theorem dX6_limitTold_26 : decode cX6_limitTold 26 = .ok (.aload_n 0, 1) := by decide +kernel
theorem dX6_limitTold_27 : decode cX6_limitTold 27 = .ok (.getfield 25, 3) := by decide +kernel
theorem dX6_limitTold_30 : decode cX6_limitTold 30 = .ok (.iload_n 1, 1) := by decide +kernel
theorem dX6_limitTold_31 : decode cX6_limitTold 31 = .ok (.aaload, 1) := by decide +kernel
theorem dX6_limitTold_32 : decode cX6_limitTold 32 = .ok (.invokevirtual 40, 3) := by decide +kernel
theorem dX6_limitTold_35 : decode cX6_limitTold 35 = .ok (.ifCond .eq 8, 3) := by decide +kernel
theorem dX6_limitTold_38 : decode cX6_limitTold 38 = .ok (.bipush 100, 2) := by decide +kernel
theorem dX6_limitTold_40 : decode cX6_limitTold 40 = .ok (.goto 4, 3) := by decide +kernel
theorem dX6_limitTold_43 : decode cX6_limitTold 43 = .ok (.iconst 0, 1) := by decide +kernel
theorem dX6_limitTold_44 : decode cX6_limitTold 44 = .ok (.iadd, 1) := by decide +kernel
theorem dX6_limitTold_45 : decode cX6_limitTold 45 = .ok (.ireturn, 1) := by decide +kernel
set_option maxRecDepth 20000 in
theorem ggX6_takeOver_X3_takeOver : GoodIn wsX6_takeOver wsX3_takeOver := goodIn_r _ [10, 11, 12, 13, 14, 9, 15, 16, 17, 18, 19, 20, 34, 35] rfl (by decide +kernel)
set_option maxRecDepth 20000 in
theorem gX6_takeOver_X3_takeOver : GoodIn wsX6_takeOver (wsV RX6 44 RX3 yX3_takeOver wsX3_takeOver) := goodIn_app (goodIn_of _ (by decide +kernel)) ggX6_takeOver_X3_takeOver
set_option maxRecDepth 20000 in
theorem ggX6_takeOver_X1_takeOver : GoodIn wsX6_takeOver wsX1_takeOver := goodIn_r _ [25, 26, 27, 28, 7, 8, 9, 10, 11, 12, 13, 14, 15, 16, 17, 18, 19, 20, 36, 37, 34, 35] rfl (by decide +kernel)
set_option maxRecDepth 20000 in
theorem gX6_takeOver_X1_takeOver : GoodIn wsX6_takeOver (wsV RX6 48 RX1 yX1_takeOver wsX1_takeOver) := goodIn_app (goodIn_of _ (by decide +kernel)) ggX6_takeOver_X1_takeOver
theorem dX6_takeOver_0 : decode cX6_takeOver 0 = .ok (.aload_n 0, 1) := by decide +kernel
theorem dX6_takeOver_1 : decode cX6_takeOver 1 = .ok (.getfield 14, 3) := by decide +kernel
theorem dX6_takeOver_4 : decode cX6_takeOver 4 = .ok (.aload_n 1, 1) := by decide +kernel
theorem dX6_takeOver_5 : decode cX6_takeOver 5 = .ok (.getfield 14, 3) := by decide +kernel
theorem dX6_takeOver_8 : decode cX6_takeOver 8 = .ok (.invokevirtual 44, 3) := by decide +kernel
theorem dX6_takeOver_11 : decode cX6_takeOver 11 = .ok (.aload_n 0, 1) := by decide +kernel
theorem dX6_takeOver_12 : decode cX6_takeOver 12 = .ok (.getfield 20, 3) := by decide +kernel
theorem dX6_takeOver_15 : decode cX6_takeOver 15 = .ok (.aload_n 1, 1) := by decide +kernel
theorem dX6_takeOver_16 : decode cX6_takeOver 16 = .ok (.getfield 20, 3) := by decide +kernel
theorem dX6_takeOver_19 : decode cX6_takeOver 19 = .ok (.invokevirtual 44, 3) := by decide +kernel
theorem dX6_takeOver_22 : decode cX6_takeOver 22 = .ok (.iconst 0, 1) := by decide +kernel
theorem dX6_takeOver_23 : decode cX6_takeOver 23 = .ok (.istore_n 2, 1) := by decide +kernel
theorem dX6_takeOver_24 : decode cX6_takeOver 24 = .ok (.iload_n 2, 1) := by decide +kernel
theorem dX6_takeOver_25 : decode cX6_takeOver 25 = .ok (.aload_n 1, 1) := by decide +kernel
theorem dX6_takeOver_26 : decode cX6_takeOver 26 = .ok (.getfield 30, 3) := by decide +kernel
theorem dX6_takeOver_29 : decode cX6_takeOver 29 = .ok (.if_icmp .ge 24, 3) := by decide +kernel
theorem dX6_takeOver_32 : decode cX6_takeOver 32 = .ok (.aload_n 0, 1) := by decide +kernel
theorem dX6_takeOver_33 : decode cX6_takeOver 33 = .ok (.getfield 25, 3) := by decide +kernel
theorem dX6_takeOver_36 : decode cX6_takeOver 36 = .ok (.iload_n 2, 1) := by decide +kernel
theorem dX6_takeOver_37 : decode cX6_takeOver 37 = .ok (.aaload, 1) := by decide +kernel
theorem dX6_takeOver_38 : decode cX6_takeOver 38 = .ok (.aload_n 1, 1) := by decide +kernel
theorem dX6_takeOver_39 : decode cX6_takeOver 39 = .ok (.getfield 25, 3) := by decide +kernel
theorem dX6_takeOver_42 : decode cX6_takeOver 42 = .ok (.iload_n 2, 1) := by decide +kernel
theorem dX6_takeOver_43 : decode cX6_takeOver 43 = .ok (.aaload, 1) := by decide +kernel
theorem dX6_takeOver_44 : decode cX6_takeOver 44 = .ok (.invokevirtual 48, 3) := by decide +kernel
theorem dX6_takeOver_47 : decode cX6_takeOver 47 = .ok (.iinc 2 1, 3) := by decide +kernel
theorem dX6_takeOver_50 : decode cX6_takeOver 50 = .ok (.goto (-26), 3) := by decide +kernel
theorem dX6_takeOver_53 : decode cX6_takeOver 53 = .ok (.aload_n 0, 1) := by decide +kernel
theorem dX6_takeOver_54 : decode cX6_takeOver 54 = .ok (.aload_n 1, 1) := by decide +kernel
theorem dX6_takeOver_55 : decode cX6_takeOver 55 = .ok (.getfield 30, 3) := by decide +kernel
theorem dX6_takeOver_58 : decode cX6_takeOver 58 = .ok (.putfield 30, 3) := by decide +kernel
theorem dX6_takeOver_61 : decode cX6_takeOver 61 = .ok (.aload_n 0, 1) := by decide +kernel
theorem dX6_takeOver_62 : decode cX6_takeOver 62 = .ok (.aload_n 1, 1) := by decide +kernel
theorem dX6_takeOver_63 : decode cX6_takeOver 63 = .ok (.getfield 51, 3) := by decide +kernel
theorem dX6_takeOver_66 : decode cX6_takeOver 66 = .ok (.putfield 51, 3) := by decide +kernel
theorem dX6_takeOver_69 : decode cX6_takeOver 69 = .ok (.return_, 1) := by decide +kernel
set_option maxRecDepth 20000 in
theorem ggX6_putOn_X3_push : GoodIn wsX6_putOn wsX3_push := goodIn_r _ [10, 11, 12, 44, 45] rfl (by decide +kernel)
set_option maxRecDepth 20000 in
theorem gX6_putOn_X3_push : GoodIn wsX6_putOn (wsV RX6 55 RX3 yX3_push wsX3_push) := goodIn_app (goodIn_of _ (by decide +kernel)) ggX6_putOn_X3_push
set_option maxRecDepth 20000 in
theorem ggX6_putOn_X3_pushAll : GoodIn wsX6_putOn wsX3_pushAll := goodIn_r _ [16, 11, 17, 18, 19, 9, 20, 12, 21, 22, 23, 24, 44, 45] rfl (by decide +kernel)
set_option maxRecDepth 20000 in
theorem gX6_putOn_X3_pushAll : GoodIn wsX6_putOn (wsV RX6 58 RX3 yX3_pushAll wsX3_pushAll) := goodIn_app (goodIn_of _ (by decide +kernel)) ggX6_putOn_X3_pushAll
set_option maxRecDepth 20000 in
theorem ggX6_putOn_X1_putOn : GoodIn wsX6_putOn wsX1_putOn := goodIn_r _ [29, 30, 31, 32, 33, 7, 8, 9, 10, 11, 12, 34, 14, 15, 16, 17, 18, 19, 20, 21, 22, 23, 24, 35, 36, 37, 28, 38, 46, 47, 44, 45] rfl (by decide +kernel)
set_option maxRecDepth 20000 in
theorem gX6_putOn_X1_putOn : GoodIn wsX6_putOn (wsV RX6 61 RX1 yX1_putOn wsX1_putOn) := goodIn_app (goodIn_of _ (by decide +kernel)) ggX6_putOn_X1_putOn
theorem dX6_putOn_0 : decode cX6_putOn 0 = .ok (.aload_n 1, 1) := by decide +kernel
theorem dX6_putOn_1 : decode cX6_putOn 1 = .ok (.iconst 2, 1) := by decide +kernel
theorem dX6_putOn_2 : decode cX6_putOn 2 = .ok (.invokevirtual 55, 3) := by decide +kernel
theorem dX6_putOn_5 : decode cX6_putOn 5 = .ok (.aload_n 1, 1) := by decide +kernel
theorem dX6_putOn_6 : decode cX6_putOn 6 = .ok (.iconst 2, 1) := by decide +kernel
theorem dX6_putOn_7 : decode cX6_putOn 7 = .ok (.invokevirtual 55, 3) := by decide +kernel
theorem dX6_putOn_10 : decode cX6_putOn 10 = .ok (.aload_n 1, 1) := by decide +kernel
theorem dX6_putOn_11 : decode cX6_putOn 11 = .ok (.aload_n 0, 1) := by decide +kernel
theorem dX6_putOn_12 : decode cX6_putOn 12 = .ok (.getfield 14, 3) := by decide +kernel
theorem dX6_putOn_15 : decode cX6_putOn 15 = .ok (.getfield 37, 3) := by decide +kernel
theorem dX6_putOn_18 : decode cX6_putOn 18 = .ok (.invokevirtual 55, 3) := by decide +kernel
theorem dX6_putOn_21 : decode cX6_putOn 21 = .ok (.aload_n 1, 1) := by decide +kernel
theorem dX6_putOn_22 : decode cX6_putOn 22 = .ok (.aload_n 0, 1) := by decide +kernel
theorem dX6_putOn_23 : decode cX6_putOn 23 = .ok (.getfield 14, 3) := by decide +kernel
theorem dX6_putOn_26 : decode cX6_putOn 26 = .ok (.invokevirtual 58, 3) := by decide +kernel
theorem dX6_putOn_29 : decode cX6_putOn 29 = .ok (.aload_n 1, 1) := by decide +kernel
theorem dX6_putOn_30 : decode cX6_putOn 30 = .ok (.iconst 0, 1) := by decide +kernel
theorem dX6_putOn_31 : decode cX6_putOn 31 = .ok (.invokevirtual 55, 3) := by decide +kernel
theorem dX6_putOn_34 : decode cX6_putOn 34 = .ok (.iconst 0, 1) := by decide +kernel
theorem dX6_putOn_35 : decode cX6_putOn 35 = .ok (.istore_n 2, 1) := by decide +kernel
theorem dX6_putOn_36 : decode cX6_putOn 36 = .ok (.iload_n 2, 1) := by decide +kernel
theorem dX6_putOn_37 : decode cX6_putOn 37 = .ok (.aload_n 0, 1) := by decide +kernel
theorem dX6_putOn_38 : decode cX6_putOn 38 = .ok (.getfield 30, 3) := by decide +kernel
theorem dX6_putOn_41 : decode cX6_putOn 41 = .ok (.if_icmp .ge 19, 3) := by decide +kernel
theorem dX6_putOn_44 : decode cX6_putOn 44 = .ok (.aload_n 0, 1) := by decide +kernel
theorem dX6_putOn_45 : decode cX6_putOn 45 = .ok (.getfield 25, 3) := by decide +kernel
theorem dX6_putOn_48 : decode cX6_putOn 48 = .ok (.iload_n 2, 1) := by decide +kernel
theorem dX6_putOn_49 : decode cX6_putOn 49 = .ok (.aaload, 1) := by decide +kernel
theorem dX6_putOn_50 : decode cX6_putOn 50 = .ok (.aload_n 1, 1) := by decide +kernel
theorem dX6_putOn_51 : decode cX6_putOn 51 = .ok (.invokevirtual 61, 3) := by decide +kernel
theorem dX6_putOn_54 : decode cX6_putOn 54 = .ok (.iinc 2 1, 3) := by decide +kernel
theorem dX6_putOn_57 : decode cX6_putOn 57 = .ok (.goto (-21), 3) := by decide +kernel
theorem dX6_putOn_60 : decode cX6_putOn 60 = .ok (.aload_n 1, 1) := by decide +kernel
theorem dX6_putOn_61 : decode cX6_putOn 61 = .ok (.iconst 0, 1) := by decide +kernel
theorem dX6_putOn_62 : decode cX6_putOn 62 = .ok (.invokevirtual 55, 3) := by decide +kernel
theorem dX6_putOn_65 : decode cX6_putOn 65 = .ok (.aload_n 1, 1) := by decide +kernel
theorem dX6_putOn_66 : decode cX6_putOn 66 = .ok (.bipush 6, 2) := by decide +kernel
theorem dX6_putOn_68 : decode cX6_putOn 68 = .ok (.invokevirtual 55, 3) := by decide +kernel
theorem dX6_putOn_71 : decode cX6_putOn 71 = .ok (.aload_n 1, 1) := by decide +kernel
theorem dX6_putOn_72 : decode cX6_putOn 72 = .ok (.bipush 32, 2) := by decide +kernel
theorem dX6_putOn_74 : decode cX6_putOn 74 = .ok (.invokevirtual 55, 3) := by decide +kernel
theorem dX6_putOn_77 : decode cX6_putOn 77 = .ok (.aload_n 1, 1) := by decide +kernel
theorem dX6_putOn_78 : decode cX6_putOn 78 = .ok (.aload_n 0, 1) := by decide +kernel
theorem dX6_putOn_79 : decode cX6_putOn 79 = .ok (.getfield 20, 3) := by decide +kernel
theorem dX6_putOn_82 : decode cX6_putOn 82 = .ok (.invokevirtual 58, 3) := by decide +kernel
theorem dX6_putOn_85 : decode cX6_putOn 85 = .ok (.return_, 1) := by decide +kernel
end
section
set_option maxRecDepth 20000 in
theorem ggX5_init_X3_init : GoodIn wsX5_init wsX3_init := goodIn_r _ [11, 12, 2, 3, 13, 14, 15, 16, 17, 18, 19, 20] rfl (by decide +kernel)
set_option maxRecDepth 20000 in
theorem gX5_init_X3_init : GoodIn wsX5_init (wsX3_init) := ggX5_init_X3_init
theorem dX5_init_0 : decode cX5_init 0 = .ok (.aload_n 0, 1) := by decide +kernel
theorem dX5_init_1 : decode cX5_init 1 = .ok (.invokespecial 3, 3) := by decide +kernel
theorem dX5_init_4 : decode cX5_init 4 = .ok (.aload_n 0, 1) := by decide +kernel
theorem dX5_init_5 : decode cX5_init 5 = .ok (.new 9, 3) := by decide +kernel
theorem dX5_init_8 : decode cX5_init 8 = .ok (.dup, 1) := by decide +kernel
theorem dX5_init_9 : decode cX5_init 9 = .ok (.sipush 1200, 3) := by decide +kernel
theorem dX5_init_12 : decode cX5_init 12 = .ok (.invokespecial 11, 3) := by decide +kernel
theorem dX5_init_15 : decode cX5_init 15 = .ok (.putfield 14, 3) := by decide +kernel
theorem dX5_init_18 : decode cX5_init 18 = .ok (.aload_n 0, 1) := by decide +kernel
theorem dX5_init_19 : decode cX5_init 19 = .ok (.iconst (-1), 1) := by decide +kernel
theorem dX5_init_20 : decode cX5_init 20 = .ok (.putfield 20, 3) := by decide +kernel
theorem dX5_init_23 : decode cX5_init 23 = .ok (.return_, 1) := by decide +kernel
set_option maxRecDepth 20000 in
theorem ggX5_readToken_X5_takeMark : GoodIn wsX5_readToken wsX5_takeMark := goodIn_r _ [14, 8, 1, 15, 16, 17, 18, 19, 20, 21, 22, 23, 13, 24, 2, 3, 25, 26, 27, 28, 29, 57, 58, 59, 60, 66, 67] rfl (by decide +kernel)
set_option maxRecDepth 20000 in
theorem gX5_readToken_X5_takeMark : GoodIn wsX5_readToken (wsV RX5 39 RX5 yX5_takeMark wsX5_takeMark) := goodIn_app (goodIn_of _ (by decide +kernel)) ggX5_readToken_X5_takeMark
set_option maxRecDepth 20000 in
theorem ggX5_readToken_X5_takeBytes : GoodIn wsX5_readToken wsX5_takeBytes := goodIn_r _ [33, 8, 1, 9, 15, 16, 17, 18, 19, 20, 21, 22, 23, 13, 24, 2, 3, 25, 26, 27, 28, 29, 34, 35, 36, 37, 38, 39, 40, 41, 42, 43, 44, 45, 57, 58, 59, 60, 66, 67] rfl (by decide +kernel)
set_option maxRecDepth 20000 in
theorem gX5_readToken_X5_takeBytes : GoodIn wsX5_readToken (wsV RX5 46 RX5 yX5_takeBytes wsX5_takeBytes) := goodIn_app (goodIn_of _ (by decide +kernel)) ggX5_readToken_X5_takeBytes
set_option maxRecDepth 20000 in
theorem ggX5_readToken_X5_takeLimits : GoodIn wsX5_readToken wsX5_takeLimits := goodIn_r _ [49, 8, 1, 50, 5, 25, 26, 27, 18, 28, 20, 29, 51, 52, 53, 13, 54, 55, 56, 10, 11, 12, 14, 15, 16, 17, 19, 21, 22, 23, 24, 2, 3, 30, 31, 32, 33, 9, 34, 35, 36, 37, 38, 39, 40, 41, 42, 43, 44, 45, 57, 58, 59, 60, 61, 62, 63, 64, 65, 66, 67, 68, 69] rfl (by decide +kernel)
set_option maxRecDepth 20000 in
theorem gX5_readToken_X5_takeLimits : GoodIn wsX5_readToken (wsV RX5 50 RX5 yX5_takeLimits wsX5_takeLimits) := goodIn_app (goodIn_of _ (by decide +kernel)) ggX5_readToken_X5_takeLimits
set_option maxRecDepth 20000 in
theorem ggX5_readToken_X5_stopAt : GoodIn wsX5_readToken wsX5_stopAt := goodIn_r _ [24, 2, 1, 3, 57, 58, 59, 60] rfl (by decide +kernel)
set_option maxRecDepth 20000 in
theorem gX5_readToken_X5_stopAt : GoodIn wsX5_readToken (wsV RX5 60 RX5 yX5_stopAt wsX5_stopAt) := goodIn_app (goodIn_of _ (by decide +kernel)) ggX5_readToken_X5_stopAt
theorem dX5_readToken_0 : decode cX5_readToken 0 = .ok (.aload_n 0, 1) := by decide +kernel
theorem dX5_readToken_1 : decode cX5_readToken 1 = .ok (.iconst 0, 1) := by decide +kernel
theorem dX5_readToken_2 : decode cX5_readToken 2 = .ok (.putfield 24, 3) := by decide +kernel
theorem dX5_readToken_5 : decode cX5_readToken 5 = .ok (.aload_n 0, 1) := by decide +kernel
theorem dX5_readToken_6 : decode cX5_readToken 6 = .ok (.iconst 0, 1) := by decide +kernel
theorem dX5_readToken_7 : decode cX5_readToken 7 = .ok (.putfield 27, 3) := by decide +kernel
theorem dX5_readToken_10 : decode cX5_readToken 10 = .ok (.aload_n 0, 1) := by decide +kernel
theorem dX5_readToken_11 : decode cX5_readToken 11 = .ok (.iconst (-1), 1) := by decide +kernel
theorem dX5_readToken_12 : decode cX5_readToken 12 = .ok (.putfield 20, 3) := by decide +kernel
theorem dX5_readToken_15 : decode cX5_readToken 15 = .ok (.aload_n 1, 1) := by decide +kernel
theorem dX5_readToken_16 : decode cX5_readToken 16 = .ok (.iconst 1, 1) := by decide +kernel
theorem dX5_readToken_17 : decode cX5_readToken 17 = .ok (.putfield 30, 3) := by decide +kernel
theorem dX5_readToken_20 : decode cX5_readToken 20 = .ok (.aload_n 1, 1) := by decide +kernel
theorem dX5_readToken_21 : decode cX5_readToken 21 = .ok (.iconst 0, 1) := by decide +kernel
theorem dX5_readToken_22 : decode cX5_readToken 22 = .ok (.putfield 36, 3) := by decide +kernel
theorem dX5_readToken_25 : decode cX5_readToken 25 = .ok (.aload_n 0, 1) := by decide +kernel
theorem dX5_readToken_26 : decode cX5_readToken 26 = .ok (.iconst 2, 1) := by decide +kernel
theorem dX5_readToken_27 : decode cX5_readToken 27 = .ok (.invokevirtual 39, 3) := by decide +kernel
theorem dX5_readToken_30 : decode cX5_readToken 30 = .ok (.ifCond .eq 99, 3) := by decide +kernel
theorem dX5_readToken_33 : decode cX5_readToken 33 = .ok (.aload_n 0, 1) := by decide +kernel
theorem dX5_readToken_34 : decode cX5_readToken 34 = .ok (.iconst 2, 1) := by decide +kernel
theorem dX5_readToken_35 : decode cX5_readToken 35 = .ok (.invokevirtual 39, 3) := by decide +kernel
theorem dX5_readToken_38 : decode cX5_readToken 38 = .ok (.ifCond .eq 91, 3) := by decide +kernel
theorem dX5_readToken_41 : decode cX5_readToken 41 = .ok (.aload_n 0, 1) := by decide +kernel
theorem dX5_readToken_42 : decode cX5_readToken 42 = .ok (.aload_n 1, 1) := by decide +kernel
theorem dX5_readToken_43 : decode cX5_readToken 43 = .ok (.getfield 43, 3) := by decide +kernel
theorem dX5_readToken_46 : decode cX5_readToken 46 = .ok (.iconst 1, 1) := by decide +kernel
theorem dX5_readToken_47 : decode cX5_readToken 47 = .ok (.bipush 60, 2) := by decide +kernel
theorem dX5_readToken_49 : decode cX5_readToken 49 = .ok (.invokevirtual 46, 3) := by decide +kernel
theorem dX5_readToken_52 : decode cX5_readToken 52 = .ok (.ifCond .eq 77, 3) := by decide +kernel
theorem dX5_readToken_55 : decode cX5_readToken 55 = .ok (.aload_n 0, 1) := by decide +kernel
theorem dX5_readToken_56 : decode cX5_readToken 56 = .ok (.iconst 0, 1) := by decide +kernel
theorem dX5_readToken_57 : decode cX5_readToken 57 = .ok (.invokevirtual 39, 3) := by decide +kernel
theorem dX5_readToken_60 : decode cX5_readToken 60 = .ok (.ifCond .eq 69, 3) := by decide +kernel
theorem dX5_readToken_63 : decode cX5_readToken 63 = .ok (.aload_n 0, 1) := by decide +kernel
theorem dX5_readToken_64 : decode cX5_readToken 64 = .ok (.aload_n 1, 1) := by decide +kernel
theorem dX5_readToken_65 : decode cX5_readToken 65 = .ok (.invokevirtual 50, 3) := by decide +kernel
theorem dX5_readToken_68 : decode cX5_readToken 68 = .ok (.ifCond .eq 61, 3) := by decide +kernel
theorem dX5_readToken_71 : decode cX5_readToken 71 = .ok (.aload_n 0, 1) := by decide +kernel
theorem dX5_readToken_72 : decode cX5_readToken 72 = .ok (.iconst 0, 1) := by decide +kernel
theorem dX5_readToken_73 : decode cX5_readToken 73 = .ok (.invokevirtual 39, 3) := by decide +kernel
theorem dX5_readToken_76 : decode cX5_readToken 76 = .ok (.ifCond .eq 53, 3) := by decide +kernel
theorem dX5_readToken_79 : decode cX5_readToken 79 = .ok (.aload_n 0, 1) := by decide +kernel
theorem dX5_readToken_80 : decode cX5_readToken 80 = .ok (.bipush 6, 2) := by decide +kernel
theorem dX5_readToken_82 : decode cX5_readToken 82 = .ok (.invokevirtual 39, 3) := by decide +kernel
theorem dX5_readToken_85 : decode cX5_readToken 85 = .ok (.ifCond .eq 44, 3) := by decide +kernel
theorem dX5_readToken_88 : decode cX5_readToken 88 = .ok (.aload_n 0, 1) := by decide +kernel
theorem dX5_readToken_89 : decode cX5_readToken 89 = .ok (.aload_n 1, 1) := by decide +kernel
theorem dX5_readToken_90 : decode cX5_readToken 90 = .ok (.getfield 54, 3) := by decide +kernel
theorem dX5_readToken_93 : decode cX5_readToken 93 = .ok (.bipush 32, 2) := by decide +kernel
theorem dX5_readToken_95 : decode cX5_readToken 95 = .ok (.bipush 32, 2) := by decide +kernel
theorem dX5_readToken_97 : decode cX5_readToken 97 = .ok (.invokevirtual 46, 3) := by decide +kernel
theorem dX5_readToken_100 : decode cX5_readToken 100 = .ok (.ifCond .eq 29, 3) := by decide +kernel
theorem dX5_readToken_103 : decode cX5_readToken 103 = .ok (.aload_n 0, 1) := by decide +kernel
theorem dX5_readToken_104 : decode cX5_readToken 104 = .ok (.getfield 24, 3) := by decide +kernel
theorem dX5_readToken_107 : decode cX5_readToken 107 = .ok (.aload_n 0, 1) := by decide +kernel
theorem dX5_readToken_108 : decode cX5_readToken 108 = .ok (.getfield 14, 3) := by decide +kernel
theorem dX5_readToken_111 : decode cX5_readToken 111 = .ok (.getfield 57, 3) := by decide +kernel
theorem dX5_readToken_114 : decode cX5_readToken 114 = .ok (.if_icmp .eq 11, 3) := by decide +kernel
theorem dX5_readToken_117 : decode cX5_readToken 117 = .ok (.aload_n 0, 1) := by decide +kernel
theorem dX5_readToken_118 : decode cX5_readToken 118 = .ok (.iconst 5, 1) := by decide +kernel
theorem dX5_readToken_119 : decode cX5_readToken 119 = .ok (.invokevirtual 60, 3) := by decide +kernel
theorem dX5_readToken_122 : decode cX5_readToken 122 = .ok (.ifCond .eq 7, 3) := by decide +kernel
theorem dX5_readToken_125 : decode cX5_readToken 125 = .ok (.iconst 1, 1) := by decide +kernel
theorem dX5_readToken_126 : decode cX5_readToken 126 = .ok (.goto 4, 3) := by decide +kernel
theorem dX5_readToken_129 : decode cX5_readToken 129 = .ok (.iconst 0, 1) := by decide +kernel
theorem dX5_readToken_130 : decode cX5_readToken 130 = .ok (.ireturn, 1) := by decide +kernel
set_option maxRecDepth 20000 in
theorem ggX5_takeLimits_X3_byteAt : GoodIn wsX5_takeLimits wsX3_byteAt := goodIn_r _ [9, 10, 11, 59, 60] rfl (by decide +kernel)
set_option maxRecDepth 20000 in
theorem gX5_takeLimits_X3_byteAt : GoodIn wsX5_takeLimits (wsV RX5 63 RX3 yX3_byteAt wsX3_byteAt) := goodIn_app (goodIn_of _ (by decide +kernel)) ggX5_takeLimits_X3_byteAt
set_option maxRecDepth 20000 in
theorem ggX5_takeLimits_X5_takeLimit : GoodIn wsX5_takeLimits wsX5_takeLimit := goodIn_r _ [16, 17, 18, 1, 2, 19, 20, 21, 15, 22, 23, 24, 25, 8, 26, 10, 27, 28, 29, 30, 31, 32, 5, 6, 7, 9, 11, 33, 34, 35, 36, 37, 38, 39, 40, 41, 42, 43, 44, 45, 46, 47, 48, 49, 61, 62, 50, 51, 52, 53, 59, 60] rfl (by decide +kernel)
set_option maxRecDepth 20000 in
theorem gX5_takeLimits_X5_takeLimit : GoodIn wsX5_takeLimits (wsV RX5 71 RX5 yX5_takeLimit wsX5_takeLimit) := goodIn_app (goodIn_of _ (by decide +kernel)) ggX5_takeLimits_X5_takeLimit
set_option maxRecDepth 20000 in
theorem ggX5_takeLimits_X5_stopAt : GoodIn wsX5_takeLimits wsX5_stopAt := goodIn_r _ [30, 31, 2, 32, 50, 51, 52, 53] rfl (by decide +kernel)
set_option maxRecDepth 20000 in
theorem gX5_takeLimits_X5_stopAt : GoodIn wsX5_takeLimits (wsV RX5 60 RX5 yX5_stopAt wsX5_stopAt) := goodIn_app (goodIn_of _ (by decide +kernel)) ggX5_takeLimits_X5_stopAt
theorem dX5_takeLimits_0 : decode cX5_takeLimits 0 = .ok (.iconst 0, 1) := by decide +kernel
theorem dX5_takeLimits_1 : decode cX5_takeLimits 1 = .ok (.istore_n 2, 1) := by decide +kernel
theorem dX5_takeLimits_2 : decode cX5_takeLimits 2 = .ok (.iload_n 2, 1) := by decide +kernel
theorem dX5_takeLimits_3 : decode cX5_takeLimits 3 = .ok (.bipush 10, 2) := by decide +kernel
theorem dX5_takeLimits_5 : decode cX5_takeLimits 5 = .ok (.if_icmp .ge 51, 3) := by decide +kernel
theorem dX5_takeLimits_8 : decode cX5_takeLimits 8 = .ok (.aload_n 0, 1) := by decide +kernel
theorem dX5_takeLimits_9 : decode cX5_takeLimits 9 = .ok (.getfield 14, 3) := by decide +kernel
theorem dX5_takeLimits_12 : decode cX5_takeLimits 12 = .ok (.aload_n 0, 1) := by decide +kernel
theorem dX5_takeLimits_13 : decode cX5_takeLimits 13 = .ok (.getfield 24, 3) := by decide +kernel
theorem dX5_takeLimits_16 : decode cX5_takeLimits 16 = .ok (.invokevirtual 63, 3) := by decide +kernel
theorem dX5_takeLimits_19 : decode cX5_takeLimits 19 = .ok (.iconst 2, 1) := by decide +kernel
theorem dX5_takeLimits_20 : decode cX5_takeLimits 20 = .ok (.if_icmp .eq 5, 3) := by decide +kernel
theorem dX5_takeLimits_23 : decode cX5_takeLimits 23 = .ok (.iconst 1, 1) := by decide +kernel
theorem dX5_takeLimits_24 : decode cX5_takeLimits 24 = .ok (.ireturn, 1) := by decide +kernel
theorem dX5_takeLimits_25 : decode cX5_takeLimits 25 = .ok (.aload_n 0, 1) := by decide +kernel
theorem dX5_takeLimits_26 : decode cX5_takeLimits 26 = .ok (.aload_n 1, 1) := by decide +kernel
theorem dX5_takeLimits_27 : decode cX5_takeLimits 27 = .ok (.getfield 67, 3) := by decide +kernel
theorem dX5_takeLimits_30 : decode cX5_takeLimits 30 = .ok (.iload_n 2, 1) := by decide +kernel
theorem dX5_takeLimits_31 : decode cX5_takeLimits 31 = .ok (.aaload, 1) := by decide +kernel
theorem dX5_takeLimits_32 : decode cX5_takeLimits 32 = .ok (.invokevirtual 71, 3) := by decide +kernel
theorem dX5_takeLimits_35 : decode cX5_takeLimits 35 = .ok (.ifCond .ne 5, 3) := by decide +kernel
theorem dX5_takeLimits_38 : decode cX5_takeLimits 38 = .ok (.iconst 0, 1) := by decide +kernel
theorem dX5_takeLimits_39 : decode cX5_takeLimits 39 = .ok (.ireturn, 1) := by decide +kernel
theorem dX5_takeLimits_40 : decode cX5_takeLimits 40 = .ok (.aload_n 1, 1) := by decide +kernel
theorem dX5_takeLimits_41 : decode cX5_takeLimits 41 = .ok (.dup, 1) := by decide +kernel
theorem dX5_takeLimits_42 : decode cX5_takeLimits 42 = .ok (.getfield 36, 3) := by decide +kernel
theorem dX5_takeLimits_45 : decode cX5_takeLimits 45 = .ok (.iconst 1, 1) := by decide +kernel
theorem dX5_takeLimits_46 : decode cX5_takeLimits 46 = .ok (.iadd, 1) := by decide +kernel
theorem dX5_takeLimits_47 : decode cX5_takeLimits 47 = .ok (.putfield 36, 3) := by decide +kernel
theorem dX5_takeLimits_50 : decode cX5_takeLimits 50 = .ok (.iinc 2 1, 3) := by decide +kernel
theorem dX5_takeLimits_53 : decode cX5_takeLimits 53 = .ok (.goto (-51), 3) := by decide +kernel
theorem dX5_takeLimits_56 : decode cX5_takeLimits 56 = .ok (.aload_n 0, 1) := by decide +kernel
theorem dX5_takeLimits_57 : decode cX5_takeLimits 57 = .ok (.getfield 14, 3) := by decide +kernel
theorem dX5_takeLimits_60 : decode cX5_takeLimits 60 = .ok (.aload_n 0, 1) := by decide +kernel
theorem dX5_takeLimits_61 : decode cX5_takeLimits 61 = .ok (.getfield 24, 3) := by decide +kernel
theorem dX5_takeLimits_64 : decode cX5_takeLimits 64 = .ok (.invokevirtual 63, 3) := by decide +kernel
theorem dX5_takeLimits_67 : decode cX5_takeLimits 67 = .ok (.iconst 2, 1) := by decide +kernel
theorem dX5_takeLimits_68 : decode cX5_takeLimits 68 = .ok (.if_icmp .ne 11, 3) := by decide +kernel
theorem dX5_takeLimits_71 : decode cX5_takeLimits 71 = .ok (.aload_n 0, 1) := by decide +kernel
theorem dX5_takeLimits_72 : decode cX5_takeLimits 72 = .ok (.iconst 4, 1) := by decide +kernel
theorem dX5_takeLimits_73 : decode cX5_takeLimits 73 = .ok (.invokevirtual 60, 3) := by decide +kernel
theorem dX5_takeLimits_76 : decode cX5_takeLimits 76 = .ok (.ifCond .eq 7, 3) := by decide +kernel
theorem dX5_takeLimits_79 : decode cX5_takeLimits 79 = .ok (.iconst 1, 1) := by decide +kernel
theorem dX5_takeLimits_80 : decode cX5_takeLimits 80 = .ok (.goto 4, 3) := by decide +kernel
theorem dX5_takeLimits_83 : decode cX5_takeLimits 83 = .ok (.iconst 0, 1) := by decide +kernel
theorem dX5_takeLimits_84 : decode cX5_takeLimits 84 = .ok (.ireturn, 1) := by decide +kernel
set_option maxRecDepth 20000 in
theorem ggX5_takeLimit_X5_takeMark : GoodIn wsX5_takeLimit wsX5_takeMark := goodIn_r _ [9, 3, 4, 10, 11, 12, 13, 14, 15, 16, 17, 18, 8, 19, 20, 21, 22, 23, 24, 25, 26, 46, 47, 48, 49, 50, 51] rfl (by decide +kernel)
set_option maxRecDepth 20000 in
theorem gX5_takeLimit_X5_takeMark : GoodIn wsX5_takeLimit (wsV RX5 39 RX5 yX5_takeMark wsX5_takeMark) := goodIn_app (goodIn_of _ (by decide +kernel)) ggX5_takeLimit_X5_takeMark
set_option maxRecDepth 20000 in
theorem ggX5_takeLimit_X5_takeBytes : GoodIn wsX5_takeLimit wsX5_takeBytes := goodIn_r _ [30, 3, 4, 31, 10, 11, 12, 13, 14, 15, 16, 17, 18, 8, 19, 20, 21, 22, 23, 24, 25, 26, 32, 33, 34, 35, 36, 37, 38, 39, 40, 41, 42, 43, 46, 47, 48, 49, 50, 51] rfl (by decide +kernel)
set_option maxRecDepth 20000 in
theorem gX5_takeLimit_X5_takeBytes : GoodIn wsX5_takeLimit (wsV RX5 46 RX5 yX5_takeBytes wsX5_takeBytes) := goodIn_app (goodIn_of _ (by decide +kernel)) ggX5_takeLimit_X5_takeBytes
set_option maxRecDepth 20000 in
theorem ggX5_takeLimit_X3_makeEmpty : GoodIn wsX5_takeLimit wsX3_makeEmpty := goodIn_r _ [35, 15, 50, 51] rfl (by decide +kernel)
set_option maxRecDepth 20000 in
theorem gX5_takeLimit_X3_makeEmpty : GoodIn wsX5_takeLimit (wsV RX5 83 RX3 yX3_makeEmpty wsX3_makeEmpty) := goodIn_app (goodIn_of _ (by decide +kernel)) ggX5_takeLimit_X3_makeEmpty
set_option maxRecDepth 20000 in
theorem ggX5_takeLimit_X3_byteAt : GoodIn wsX5_takeLimit wsX3_byteAt := goodIn_r _ [25, 15, 26, 50, 51] rfl (by decide +kernel)
set_option maxRecDepth 20000 in
theorem gX5_takeLimit_X3_byteAt : GoodIn wsX5_takeLimit (wsV RX5 63 RX3 yX3_byteAt wsX3_byteAt) := goodIn_app (goodIn_of _ (by decide +kernel)) ggX5_takeLimit_X3_byteAt
theorem dX5_takeLimit_0 : decode cX5_takeLimit 0 = .ok (.aload_n 0, 1) := by decide +kernel
theorem dX5_takeLimit_1 : decode cX5_takeLimit 1 = .ok (.iconst 2, 1) := by decide +kernel
theorem dX5_takeLimit_2 : decode cX5_takeLimit 2 = .ok (.invokevirtual 39, 3) := by decide +kernel
theorem dX5_takeLimit_5 : decode cX5_takeLimit 5 = .ok (.ifCond .eq 17, 3) := by decide +kernel
theorem dX5_takeLimit_8 : decode cX5_takeLimit 8 = .ok (.aload_n 0, 1) := by decide +kernel
theorem dX5_takeLimit_9 : decode cX5_takeLimit 9 = .ok (.aload_n 1, 1) := by decide +kernel
theorem dX5_takeLimit_10 : decode cX5_takeLimit 10 = .ok (.getfield 75, 3) := by decide +kernel
theorem dX5_takeLimit_13 : decode cX5_takeLimit 13 = .ok (.iconst 1, 1) := by decide +kernel
theorem dX5_takeLimit_14 : decode cX5_takeLimit 14 = .ok (.bipush 60, 2) := by decide +kernel
theorem dX5_takeLimit_16 : decode cX5_takeLimit 16 = .ok (.invokevirtual 46, 3) := by decide +kernel
theorem dX5_takeLimit_19 : decode cX5_takeLimit 19 = .ok (.ifCond .ne 5, 3) := by decide +kernel
theorem dX5_takeLimit_22 : decode cX5_takeLimit 22 = .ok (.iconst 0, 1) := by decide +kernel
theorem dX5_takeLimit_23 : decode cX5_takeLimit 23 = .ok (.ireturn, 1) := by decide +kernel
theorem dX5_takeLimit_24 : decode cX5_takeLimit 24 = .ok (.aload_n 1, 1) := by decide +kernel
theorem dX5_takeLimit_25 : decode cX5_takeLimit 25 = .ok (.getfield 80, 3) := by decide +kernel
theorem dX5_takeLimit_28 : decode cX5_takeLimit 28 = .ok (.invokevirtual 83, 3) := by decide +kernel
theorem dX5_takeLimit_31 : decode cX5_takeLimit 31 = .ok (.aload_n 0, 1) := by decide +kernel
theorem dX5_takeLimit_32 : decode cX5_takeLimit 32 = .ok (.getfield 14, 3) := by decide +kernel
theorem dX5_takeLimit_35 : decode cX5_takeLimit 35 = .ok (.aload_n 0, 1) := by decide +kernel
theorem dX5_takeLimit_36 : decode cX5_takeLimit 36 = .ok (.getfield 24, 3) := by decide +kernel
theorem dX5_takeLimit_39 : decode cX5_takeLimit 39 = .ok (.invokevirtual 63, 3) := by decide +kernel
theorem dX5_takeLimit_42 : decode cX5_takeLimit 42 = .ok (.iconst 4, 1) := by decide +kernel
theorem dX5_takeLimit_43 : decode cX5_takeLimit 43 = .ok (.if_icmp .ne 30, 3) := by decide +kernel
theorem dX5_takeLimit_46 : decode cX5_takeLimit 46 = .ok (.aload_n 0, 1) := by decide +kernel
theorem dX5_takeLimit_47 : decode cX5_takeLimit 47 = .ok (.dup, 1) := by decide +kernel
theorem dX5_takeLimit_48 : decode cX5_takeLimit 48 = .ok (.getfield 24, 3) := by decide +kernel
theorem dX5_takeLimit_51 : decode cX5_takeLimit 51 = .ok (.iconst 1, 1) := by decide +kernel
theorem dX5_takeLimit_52 : decode cX5_takeLimit 52 = .ok (.iadd, 1) := by decide +kernel
theorem dX5_takeLimit_53 : decode cX5_takeLimit 53 = .ok (.putfield 24, 3) := by decide +kernel
theorem dX5_takeLimit_56 : decode cX5_takeLimit 56 = .ok (.aload_n 0, 1) := by decide +kernel
theorem dX5_takeLimit_57 : decode cX5_takeLimit 57 = .ok (.aload_n 1, 1) := by decide +kernel
theorem dX5_takeLimit_58 : decode cX5_takeLimit 58 = .ok (.getfield 80, 3) := by decide +kernel
theorem dX5_takeLimit_61 : decode cX5_takeLimit 61 = .ok (.bipush 32, 2) := by decide +kernel
theorem dX5_takeLimit_63 : decode cX5_takeLimit 63 = .ok (.bipush 32, 2) := by decide +kernel
theorem dX5_takeLimit_65 : decode cX5_takeLimit 65 = .ok (.invokevirtual 46, 3) := by decide +kernel
theorem dX5_takeLimit_68 : decode cX5_takeLimit 68 = .ok (.ifCond .ne 5, 3) := by decide +kernel
theorem dX5_takeLimit_71 : decode cX5_takeLimit 71 = .ok (.iconst 0, 1) := by decide +kernel
theorem dX5_takeLimit_72 : decode cX5_takeLimit 72 = .ok (.ireturn, 1) := by decide +kernel
theorem dX5_takeLimit_73 : decode cX5_takeLimit 73 = .ok (.aload_n 0, 1) := by decide +kernel
theorem dX5_takeLimit_74 : decode cX5_takeLimit 74 = .ok (.iconst 0, 1) := by decide +kernel
theorem dX5_takeLimit_75 : decode cX5_takeLimit 75 = .ok (.invokevirtual 39, 3) := by decide +kernel
theorem dX5_takeLimit_78 : decode cX5_takeLimit 78 = .ok (.ireturn, 1) := by decide +kernel
set_option maxRecDepth 20000 in
theorem ggX5_takeMark_X3_has : GoodIn wsX5_takeMark wsX3_has := goodIn_r _ [7, 8, 25, 26] rfl (by decide +kernel)
set_option maxRecDepth 20000 in
theorem gX5_takeMark_X3_has : GoodIn wsX5_takeMark (wsV RX5 86 RX3 yX3_has wsX3_has) := goodIn_app (goodIn_of _ (by decide +kernel)) ggX5_takeMark_X3_has
set_option maxRecDepth 20000 in
theorem ggX5_takeMark_X5_stopAt : GoodIn wsX5_takeMark wsX5_stopAt := goodIn_r _ [13, 14, 2, 15, 21, 22, 23, 24] rfl (by decide +kernel)
set_option maxRecDepth 20000 in
theorem gX5_takeMark_X5_stopAt : GoodIn wsX5_takeMark (wsV RX5 60 RX5 yX5_stopAt wsX5_stopAt) := goodIn_app (goodIn_of _ (by decide +kernel)) ggX5_takeMark_X5_stopAt
set_option maxRecDepth 20000 in
theorem ggX5_takeMark_X3_byteAt : GoodIn wsX5_takeMark wsX3_byteAt := goodIn_r _ [19, 8, 20, 25, 26] rfl (by decide +kernel)
set_option maxRecDepth 20000 in
theorem gX5_takeMark_X3_byteAt : GoodIn wsX5_takeMark (wsV RX5 63 RX3 yX3_byteAt wsX3_byteAt) := goodIn_app (goodIn_of _ (by decide +kernel)) ggX5_takeMark_X3_byteAt
theorem dX5_takeMark_0 : decode cX5_takeMark 0 = .ok (.aload_n 0, 1) := by decide +kernel
theorem dX5_takeMark_1 : decode cX5_takeMark 1 = .ok (.getfield 14, 3) := by decide +kernel
theorem dX5_takeMark_4 : decode cX5_takeMark 4 = .ok (.aload_n 0, 1) := by decide +kernel
theorem dX5_takeMark_5 : decode cX5_takeMark 5 = .ok (.getfield 24, 3) := by decide +kernel
theorem dX5_takeMark_8 : decode cX5_takeMark 8 = .ok (.invokevirtual 86, 3) := by decide +kernel
theorem dX5_takeMark_11 : decode cX5_takeMark 11 = .ok (.ifCond .ne 9, 3) := by decide +kernel
theorem dX5_takeMark_14 : decode cX5_takeMark 14 = .ok (.aload_n 0, 1) := by decide +kernel
theorem dX5_takeMark_15 : decode cX5_takeMark 15 = .ok (.iconst 1, 1) := by decide +kernel
theorem dX5_takeMark_16 : decode cX5_takeMark 16 = .ok (.invokevirtual 60, 3) := by decide +kernel
theorem dX5_takeMark_19 : decode cX5_takeMark 19 = .ok (.ireturn, 1) := by decide +kernel
theorem dX5_takeMark_20 : decode cX5_takeMark 20 = .ok (.aload_n 0, 1) := by decide +kernel
theorem dX5_takeMark_21 : decode cX5_takeMark 21 = .ok (.getfield 14, 3) := by decide +kernel
theorem dX5_takeMark_24 : decode cX5_takeMark 24 = .ok (.aload_n 0, 1) := by decide +kernel
theorem dX5_takeMark_25 : decode cX5_takeMark 25 = .ok (.getfield 24, 3) := by decide +kernel
theorem dX5_takeMark_28 : decode cX5_takeMark 28 = .ok (.invokevirtual 63, 3) := by decide +kernel
theorem dX5_takeMark_31 : decode cX5_takeMark 31 = .ok (.iload_n 1, 1) := by decide +kernel
theorem dX5_takeMark_32 : decode cX5_takeMark 32 = .ok (.if_icmp .eq 9, 3) := by decide +kernel
theorem dX5_takeMark_35 : decode cX5_takeMark 35 = .ok (.aload_n 0, 1) := by decide +kernel
theorem dX5_takeMark_36 : decode cX5_takeMark 36 = .ok (.iconst 2, 1) := by decide +kernel
theorem dX5_takeMark_37 : decode cX5_takeMark 37 = .ok (.invokevirtual 60, 3) := by decide +kernel
theorem dX5_takeMark_40 : decode cX5_takeMark 40 = .ok (.ireturn, 1) := by decide +kernel
theorem dX5_takeMark_41 : decode cX5_takeMark 41 = .ok (.aload_n 0, 1) := by decide +kernel
theorem dX5_takeMark_42 : decode cX5_takeMark 42 = .ok (.dup, 1) := by decide +kernel
theorem dX5_takeMark_43 : decode cX5_takeMark 43 = .ok (.getfield 24, 3) := by decide +kernel
theorem dX5_takeMark_46 : decode cX5_takeMark 46 = .ok (.iconst 1, 1) := by decide +kernel
theorem dX5_takeMark_47 : decode cX5_takeMark 47 = .ok (.iadd, 1) := by decide +kernel
theorem dX5_takeMark_48 : decode cX5_takeMark 48 = .ok (.putfield 24, 3) := by decide +kernel
theorem dX5_takeMark_51 : decode cX5_takeMark 51 = .ok (.iconst 1, 1) := by decide +kernel
theorem dX5_takeMark_52 : decode cX5_takeMark 52 = .ok (.ireturn, 1) := by decide +kernel
set_option maxRecDepth 20000 in
theorem ggX5_takeBytes_X3_has : GoodIn wsX5_takeBytes wsX3_has := goodIn_r _ [8, 9, 38, 39] rfl (by decide +kernel)
set_option maxRecDepth 20000 in
theorem gX5_takeBytes_X3_has : GoodIn wsX5_takeBytes (wsV RX5 86 RX3 yX3_has wsX3_has) := goodIn_app (goodIn_of _ (by decide +kernel)) ggX5_takeBytes_X3_has
set_option maxRecDepth 20000 in
theorem ggX5_takeBytes_X5_stopAt : GoodIn wsX5_takeBytes wsX5_stopAt := goodIn_r _ [14, 15, 2, 16, 34, 35, 36, 37] rfl (by decide +kernel)
set_option maxRecDepth 20000 in
theorem gX5_takeBytes_X5_stopAt : GoodIn wsX5_takeBytes (wsV RX5 60 RX5 yX5_stopAt wsX5_stopAt) := goodIn_app (goodIn_of _ (by decide +kernel)) ggX5_takeBytes_X5_stopAt
set_option maxRecDepth 20000 in
theorem ggX5_takeBytes_X3_byteAt : GoodIn wsX5_takeBytes wsX3_byteAt := goodIn_r _ [20, 9, 21, 38, 39] rfl (by decide +kernel)
set_option maxRecDepth 20000 in
theorem gX5_takeBytes_X3_byteAt : GoodIn wsX5_takeBytes (wsV RX5 63 RX3 yX3_byteAt wsX3_byteAt) := goodIn_app (goodIn_of _ (by decide +kernel)) ggX5_takeBytes_X3_byteAt
set_option maxRecDepth 20000 in
theorem ggX5_takeBytes_X3_makeEmpty : GoodIn wsX5_takeBytes wsX3_makeEmpty := goodIn_r _ [25, 9, 38, 39] rfl (by decide +kernel)
set_option maxRecDepth 20000 in
theorem gX5_takeBytes_X3_makeEmpty : GoodIn wsX5_takeBytes (wsV RX5 83 RX3 yX3_makeEmpty wsX3_makeEmpty) := goodIn_app (goodIn_of _ (by decide +kernel)) ggX5_takeBytes_X3_makeEmpty
set_option maxRecDepth 20000 in
theorem ggX5_takeBytes_X3_pushPart : GoodIn wsX5_takeBytes wsX3_pushPart := goodIn_r _ [29, 9, 21, 30, 31, 32, 33, 38, 39] rfl (by decide +kernel)
set_option maxRecDepth 20000 in
theorem gX5_takeBytes_X3_pushPart : GoodIn wsX5_takeBytes (wsV RX5 89 RX3 yX3_pushPart wsX3_pushPart) := goodIn_app (goodIn_of _ (by decide +kernel)) ggX5_takeBytes_X3_pushPart
theorem dX5_takeBytes_0 : decode cX5_takeBytes 0 = .ok (.aload_n 0, 1) := by decide +kernel
theorem dX5_takeBytes_1 : decode cX5_takeBytes 1 = .ok (.getfield 14, 3) := by decide +kernel
theorem dX5_takeBytes_4 : decode cX5_takeBytes 4 = .ok (.aload_n 0, 1) := by decide +kernel
theorem dX5_takeBytes_5 : decode cX5_takeBytes 5 = .ok (.getfield 24, 3) := by decide +kernel
theorem dX5_takeBytes_8 : decode cX5_takeBytes 8 = .ok (.invokevirtual 86, 3) := by decide +kernel
theorem dX5_takeBytes_11 : decode cX5_takeBytes 11 = .ok (.ifCond .ne 9, 3) := by decide +kernel
theorem dX5_takeBytes_14 : decode cX5_takeBytes 14 = .ok (.aload_n 0, 1) := by decide +kernel
theorem dX5_takeBytes_15 : decode cX5_takeBytes 15 = .ok (.iconst 1, 1) := by decide +kernel
theorem dX5_takeBytes_16 : decode cX5_takeBytes 16 = .ok (.invokevirtual 60, 3) := by decide +kernel
theorem dX5_takeBytes_19 : decode cX5_takeBytes 19 = .ok (.ireturn, 1) := by decide +kernel
theorem dX5_takeBytes_20 : decode cX5_takeBytes 20 = .ok (.aload_n 0, 1) := by decide +kernel
theorem dX5_takeBytes_21 : decode cX5_takeBytes 21 = .ok (.getfield 14, 3) := by decide +kernel
theorem dX5_takeBytes_24 : decode cX5_takeBytes 24 = .ok (.aload_n 0, 1) := by decide +kernel
theorem dX5_takeBytes_25 : decode cX5_takeBytes 25 = .ok (.getfield 24, 3) := by decide +kernel
theorem dX5_takeBytes_28 : decode cX5_takeBytes 28 = .ok (.invokevirtual 63, 3) := by decide +kernel
theorem dX5_takeBytes_31 : decode cX5_takeBytes 31 = .ok (.istore 4, 2) := by decide +kernel
theorem dX5_takeBytes_33 : decode cX5_takeBytes 33 = .ok (.iload 4, 2) := by decide +kernel
theorem dX5_takeBytes_35 : decode cX5_takeBytes 35 = .ok (.iload_n 2, 1) := by decide +kernel
theorem dX5_takeBytes_36 : decode cX5_takeBytes 36 = .ok (.if_icmp .lt 9, 3) := by decide +kernel
theorem dX5_takeBytes_39 : decode cX5_takeBytes 39 = .ok (.iload 4, 2) := by decide +kernel
theorem dX5_takeBytes_41 : decode cX5_takeBytes 41 = .ok (.iload_n 3, 1) := by decide +kernel
theorem dX5_takeBytes_42 : decode cX5_takeBytes 42 = .ok (.if_icmp .le 9, 3) := by decide +kernel
theorem dX5_takeBytes_45 : decode cX5_takeBytes 45 = .ok (.aload_n 0, 1) := by decide +kernel
theorem dX5_takeBytes_46 : decode cX5_takeBytes 46 = .ok (.iconst 3, 1) := by decide +kernel
theorem dX5_takeBytes_47 : decode cX5_takeBytes 47 = .ok (.invokevirtual 60, 3) := by decide +kernel
theorem dX5_takeBytes_50 : decode cX5_takeBytes 50 = .ok (.ireturn, 1) := by decide +kernel
theorem dX5_takeBytes_51 : decode cX5_takeBytes 51 = .ok (.aload_n 0, 1) := by decide +kernel
theorem dX5_takeBytes_52 : decode cX5_takeBytes 52 = .ok (.dup, 1) := by decide +kernel
theorem dX5_takeBytes_53 : decode cX5_takeBytes 53 = .ok (.getfield 24, 3) := by decide +kernel
theorem dX5_takeBytes_56 : decode cX5_takeBytes 56 = .ok (.iconst 1, 1) := by decide +kernel
theorem dX5_takeBytes_57 : decode cX5_takeBytes 57 = .ok (.iadd, 1) := by decide +kernel
theorem dX5_takeBytes_58 : decode cX5_takeBytes 58 = .ok (.putfield 24, 3) := by decide +kernel
theorem dX5_takeBytes_61 : decode cX5_takeBytes 61 = .ok (.iload 4, 2) := by decide +kernel
theorem dX5_takeBytes_63 : decode cX5_takeBytes 63 = .ok (.aload_n 0, 1) := by decide +kernel
theorem dX5_takeBytes_64 : decode cX5_takeBytes 64 = .ok (.getfield 14, 3) := by decide +kernel
theorem dX5_takeBytes_67 : decode cX5_takeBytes 67 = .ok (.getfield 57, 3) := by decide +kernel
theorem dX5_takeBytes_70 : decode cX5_takeBytes 70 = .ok (.aload_n 0, 1) := by decide +kernel
theorem dX5_takeBytes_71 : decode cX5_takeBytes 71 = .ok (.getfield 24, 3) := by decide +kernel
theorem dX5_takeBytes_74 : decode cX5_takeBytes 74 = .ok (.isub, 1) := by decide +kernel
theorem dX5_takeBytes_75 : decode cX5_takeBytes 75 = .ok (.if_icmp .le 20, 3) := by decide +kernel
theorem dX5_takeBytes_78 : decode cX5_takeBytes 78 = .ok (.aload_n 0, 1) := by decide +kernel
theorem dX5_takeBytes_79 : decode cX5_takeBytes 79 = .ok (.aload_n 0, 1) := by decide +kernel
theorem dX5_takeBytes_80 : decode cX5_takeBytes 80 = .ok (.getfield 14, 3) := by decide +kernel
theorem dX5_takeBytes_83 : decode cX5_takeBytes 83 = .ok (.getfield 57, 3) := by decide +kernel
theorem dX5_takeBytes_86 : decode cX5_takeBytes 86 = .ok (.putfield 24, 3) := by decide +kernel
theorem dX5_takeBytes_89 : decode cX5_takeBytes 89 = .ok (.aload_n 0, 1) := by decide +kernel
theorem dX5_takeBytes_90 : decode cX5_takeBytes 90 = .ok (.iconst 1, 1) := by decide +kernel
theorem dX5_takeBytes_91 : decode cX5_takeBytes 91 = .ok (.invokevirtual 60, 3) := by decide +kernel
theorem dX5_takeBytes_94 : decode cX5_takeBytes 94 = .ok (.ireturn, 1) := by decide +kernel
theorem dX5_takeBytes_95 : decode cX5_takeBytes 95 = .ok (.aload_n 1, 1) := by decide +kernel
theorem dX5_takeBytes_96 : decode cX5_takeBytes 96 = .ok (.invokevirtual 83, 3) := by decide +kernel
theorem dX5_takeBytes_99 : decode cX5_takeBytes 99 = .ok (.aload_n 1, 1) := by decide +kernel
theorem dX5_takeBytes_100 : decode cX5_takeBytes 100 = .ok (.aload_n 0, 1) := by decide +kernel
theorem dX5_takeBytes_101 : decode cX5_takeBytes 101 = .ok (.getfield 14, 3) := by decide +kernel
theorem dX5_takeBytes_104 : decode cX5_takeBytes 104 = .ok (.aload_n 0, 1) := by decide +kernel
theorem dX5_takeBytes_105 : decode cX5_takeBytes 105 = .ok (.getfield 24, 3) := by decide +kernel
theorem dX5_takeBytes_108 : decode cX5_takeBytes 108 = .ok (.iload 4, 2) := by decide +kernel
theorem dX5_takeBytes_110 : decode cX5_takeBytes 110 = .ok (.invokevirtual 89, 3) := by decide +kernel
theorem dX5_takeBytes_113 : decode cX5_takeBytes 113 = .ok (.aload_n 0, 1) := by decide +kernel
theorem dX5_takeBytes_114 : decode cX5_takeBytes 114 = .ok (.dup, 1) := by decide +kernel
theorem dX5_takeBytes_115 : decode cX5_takeBytes 115 = .ok (.getfield 24, 3) := by decide +kernel
theorem dX5_takeBytes_118 : decode cX5_takeBytes 118 = .ok (.iload 4, 2) := by decide +kernel
theorem dX5_takeBytes_120 : decode cX5_takeBytes 120 = .ok (.iadd, 1) := by decide +kernel
theorem dX5_takeBytes_121 : decode cX5_takeBytes 121 = .ok (.putfield 24, 3) := by decide +kernel
theorem dX5_takeBytes_124 : decode cX5_takeBytes 124 = .ok (.iconst 1, 1) := by decide +kernel
theorem dX5_takeBytes_125 : decode cX5_takeBytes 125 = .ok (.ireturn, 1) := by decide +kernel
theorem dX5_stopAt_0 : decode cX5_stopAt 0 = .ok (.aload_n 0, 1) := by decide +kernel
theorem dX5_stopAt_1 : decode cX5_stopAt 1 = .ok (.iload_n 1, 1) := by decide +kernel
theorem dX5_stopAt_2 : decode cX5_stopAt 2 = .ok (.putfield 27, 3) := by decide +kernel
theorem dX5_stopAt_5 : decode cX5_stopAt 5 = .ok (.aload_n 0, 1) := by decide +kernel
theorem dX5_stopAt_6 : decode cX5_stopAt 6 = .ok (.aload_n 0, 1) := by decide +kernel
theorem dX5_stopAt_7 : decode cX5_stopAt 7 = .ok (.getfield 24, 3) := by decide +kernel
theorem dX5_stopAt_10 : decode cX5_stopAt 10 = .ok (.putfield 20, 3) := by decide +kernel
theorem dX5_stopAt_13 : decode cX5_stopAt 13 = .ok (.iconst 0, 1) := by decide +kernel
theorem dX5_stopAt_14 : decode cX5_stopAt 14 = .ok (.ireturn, 1) := by decide +kernel
end
section
set_option maxRecDepth 20000 in
theorem ggX2_init_X4_init : GoodIn wsX2_init wsX4_init := goodIn_r _ [26, 27, 2, 3, 28, 29, 30, 31, 22, 23, 32, 33, 34, 35, 36, 37, 38, 39, 40, 41, 42, 43, 44, 45, 46, 47, 48, 49, 50, 51, 52, 88, 89, 90, 91, 92, 93, 94, 95, 96, 104, 105] rfl (by decide +kernel)
set_option maxRecDepth 20000 in
theorem gX2_init_X4_init : GoodIn wsX2_init (wsX4_init) := ggX2_init_X4_init
set_option maxRecDepth 20000 in
theorem ggX2_init_X0_init : GoodIn wsX2_init wsX0_init := goodIn_r _ [54, 55, 2, 3, 28, 56, 97, 98] rfl (by decide +kernel)
set_option maxRecDepth 20000 in
theorem gX2_init_X0_init_n26 : GoodIn wsX2_init (wsX0_init) := ggX2_init_X0_init
set_option maxRecDepth 20000 in
theorem ggX2_init_X6_init : GoodIn wsX2_init wsX6_init := goodIn_r _ [59, 60, 2, 3, 61, 22, 23, 62, 63, 64, 65, 66, 67, 68, 40, 41, 42, 43, 44, 45, 46, 28, 47, 69, 70, 71, 72, 73, 74, 75, 104, 105, 99, 100, 101, 102, 103, 106, 107] rfl (by decide +kernel)
set_option maxRecDepth 20000 in
theorem gX2_init_X6_init : GoodIn wsX2_init (wsX6_init) := ggX2_init_X6_init
set_option maxRecDepth 20000 in
theorem ggX2_init_X3_init : GoodIn wsX2_init wsX3_init := goodIn_r _ [41, 42, 2, 3, 43, 44, 45, 46, 28, 47, 104, 105] rfl (by decide +kernel)
set_option maxRecDepth 20000 in
theorem gX2_init_X3_init : GoodIn wsX2_init (wsX3_init) := ggX2_init_X3_init
theorem dX2_init_0 : decode cX2_init 0 = .ok (.aload_n 0, 1) := by decide +kernel
theorem dX2_init_1 : decode cX2_init 1 = .ok (.invokespecial 3, 3) := by decide +kernel
theorem dX2_init_4 : decode cX2_init 4 = .ok (.aload_n 0, 1) := by decide +kernel
theorem dX2_init_5 : decode cX2_init 5 = .ok (.bipush 8, 2) := by decide +kernel
theorem dX2_init_7 : decode cX2_init 7 = .ok (.anewarray 9, 3) := by decide +kernel
theorem dX2_init_10 : decode cX2_init 10 = .ok (.putfield 11, 3) := by decide +kernel
theorem dX2_init_13 : decode cX2_init 13 = .ok (.aload_n 0, 1) := by decide +kernel
theorem dX2_init_14 : decode cX2_init 14 = .ok (.new 17, 3) := by decide +kernel
theorem dX2_init_17 : decode cX2_init 17 = .ok (.dup, 1) := by decide +kernel
theorem dX2_init_18 : decode cX2_init 18 = .ok (.invokespecial 19, 3) := by decide +kernel
theorem dX2_init_21 : decode cX2_init 21 = .ok (.putfield 20, 3) := by decide +kernel
theorem dX2_init_24 : decode cX2_init 24 = .ok (.aload_n 0, 1) := by decide +kernel
theorem dX2_init_25 : decode cX2_init 25 = .ok (.new 24, 3) := by decide +kernel
theorem dX2_init_28 : decode cX2_init 28 = .ok (.dup, 1) := by decide +kernel
theorem dX2_init_29 : decode cX2_init 29 = .ok (.invokespecial 26, 3) := by decide +kernel
theorem dX2_init_32 : decode cX2_init 32 = .ok (.putfield 27, 3) := by decide +kernel
theorem dX2_init_35 : decode cX2_init 35 = .ok (.aload_n 0, 1) := by decide +kernel
theorem dX2_init_36 : decode cX2_init 36 = .ok (.bipush 8, 2) := by decide +kernel
theorem dX2_init_38 : decode cX2_init 38 = .ok (.anewarray 31, 3) := by decide +kernel
theorem dX2_init_41 : decode cX2_init 41 = .ok (.putfield 33, 3) := by decide +kernel
theorem dX2_init_44 : decode cX2_init 44 = .ok (.aload_n 0, 1) := by decide +kernel
theorem dX2_init_45 : decode cX2_init 45 = .ok (.bipush 8, 2) := by decide +kernel
theorem dX2_init_47 : decode cX2_init 47 = .ok (.anewarray 31, 3) := by decide +kernel
theorem dX2_init_50 : decode cX2_init 50 = .ok (.putfield 37, 3) := by decide +kernel
theorem dX2_init_53 : decode cX2_init 53 = .ok (.aload_n 0, 1) := by decide +kernel
theorem dX2_init_54 : decode cX2_init 54 = .ok (.iconst (-1), 1) := by decide +kernel
theorem dX2_init_55 : decode cX2_init 55 = .ok (.putfield 40, 3) := by decide +kernel
theorem dX2_init_58 : decode cX2_init 58 = .ok (.aload_n 0, 1) := by decide +kernel
theorem dX2_init_59 : decode cX2_init 59 = .ok (.iconst (-1), 1) := by decide +kernel
theorem dX2_init_60 : decode cX2_init 60 = .ok (.putfield 44, 3) := by decide +kernel
theorem dX2_init_63 : decode cX2_init 63 = .ok (.aload_n 0, 1) := by decide +kernel
theorem dX2_init_64 : decode cX2_init 64 = .ok (.iconst (-1), 1) := by decide +kernel
theorem dX2_init_65 : decode cX2_init 65 = .ok (.putfield 47, 3) := by decide +kernel
theorem dX2_init_68 : decode cX2_init 68 = .ok (.iconst 0, 1) := by decide +kernel
theorem dX2_init_69 : decode cX2_init 69 = .ok (.istore_n 1, 1) := by decide +kernel
theorem dX2_init_70 : decode cX2_init 70 = .ok (.iload_n 1, 1) := by decide +kernel
theorem dX2_init_71 : decode cX2_init 71 = .ok (.bipush 8, 2) := by decide +kernel
theorem dX2_init_73 : decode cX2_init 73 = .ok (.if_icmp .ge 52, 3) := by decide +kernel
theorem dX2_init_76 : decode cX2_init 76 = .ok (.aload_n 0, 1) := by decide +kernel
theorem dX2_init_77 : decode cX2_init 77 = .ok (.getfield 11, 3) := by decide +kernel
theorem dX2_init_80 : decode cX2_init 80 = .ok (.iload_n 1, 1) := by decide +kernel
theorem dX2_init_81 : decode cX2_init 81 = .ok (.new 9, 3) := by decide +kernel
theorem dX2_init_84 : decode cX2_init 84 = .ok (.dup, 1) := by decide +kernel
theorem dX2_init_85 : decode cX2_init 85 = .ok (.invokespecial 50, 3) := by decide +kernel
theorem dX2_init_88 : decode cX2_init 88 = .ok (.aastore, 1) := by decide +kernel
theorem dX2_init_89 : decode cX2_init 89 = .ok (.aload_n 0, 1) := by decide +kernel
theorem dX2_init_90 : decode cX2_init 90 = .ok (.getfield 33, 3) := by decide +kernel
theorem dX2_init_93 : decode cX2_init 93 = .ok (.iload_n 1, 1) := by decide +kernel
theorem dX2_init_94 : decode cX2_init 94 = .ok (.new 31, 3) := by decide +kernel
theorem dX2_init_97 : decode cX2_init 97 = .ok (.dup, 1) := by decide +kernel
theorem dX2_init_98 : decode cX2_init 98 = .ok (.bipush 32, 2) := by decide +kernel
theorem dX2_init_100 : decode cX2_init 100 = .ok (.invokespecial 51, 3) := by decide +kernel
theorem dX2_init_103 : decode cX2_init 103 = .ok (.aastore, 1) := by decide +kernel
theorem dX2_init_104 : decode cX2_init 104 = .ok (.aload_n 0, 1) := by decide +kernel
theorem dX2_init_105 : decode cX2_init 105 = .ok (.getfield 37, 3) := by decide +kernel
theorem dX2_init_108 : decode cX2_init 108 = .ok (.iload_n 1, 1) := by decide +kernel
theorem dX2_init_109 : decode cX2_init 109 = .ok (.new 31, 3) := by decide +kernel
theorem dX2_init_112 : decode cX2_init 112 = .ok (.dup, 1) := by decide +kernel
theorem dX2_init_113 : decode cX2_init 113 = .ok (.bipush 32, 2) := by decide +kernel
theorem dX2_init_115 : decode cX2_init 115 = .ok (.invokespecial 51, 3) := by decide +kernel
theorem dX2_init_118 : decode cX2_init 118 = .ok (.aastore, 1) := by decide +kernel
theorem dX2_init_119 : decode cX2_init 119 = .ok (.iinc 1 1, 3) := by decide +kernel
theorem dX2_init_122 : decode cX2_init 122 = .ok (.goto (-52), 3) := by decide +kernel
theorem dX2_init_125 : decode cX2_init 125 = .ok (.return_, 1) := by decide +kernel
theorem dX2_begin_0 : decode cX2_begin 0 = .ok (.aload_n 0, 1) := by decide +kernel
theorem dX2_begin_1 : decode cX2_begin 1 = .ok (.iload_n 1, 1) := by decide +kernel
theorem dX2_begin_2 : decode cX2_begin 2 = .ok (.putfield 54, 3) := by decide +kernel
theorem dX2_begin_5 : decode cX2_begin 5 = .ok (.aload_n 0, 1) := by decide +kernel
theorem dX2_begin_6 : decode cX2_begin 6 = .ok (.iload_n 2, 1) := by decide +kernel
theorem dX2_begin_7 : decode cX2_begin 7 = .ok (.iconst 1, 1) := by decide +kernel
theorem dX2_begin_8 : decode cX2_begin 8 = .ok (.iload_n 1, 1) := by decide +kernel
theorem dX2_begin_9 : decode cX2_begin 9 = .ok (.ishl, 1) := by decide +kernel
theorem dX2_begin_10 : decode cX2_begin 10 = .ok (.iconst (-1), 1) := by decide +kernel
theorem dX2_begin_11 : decode cX2_begin 11 = .ok (.ixor, 1) := by decide +kernel
theorem dX2_begin_12 : decode cX2_begin 12 = .ok (.iand, 1) := by decide +kernel
theorem dX2_begin_13 : decode cX2_begin 13 = .ok (.putfield 57, 3) := by decide +kernel
theorem dX2_begin_16 : decode cX2_begin 16 = .ok (.aload_n 0, 1) := by decide +kernel
theorem dX2_begin_17 : decode cX2_begin 17 = .ok (.iconst 0, 1) := by decide +kernel
theorem dX2_begin_18 : decode cX2_begin 18 = .ok (.putfield 60, 3) := by decide +kernel
theorem dX2_begin_21 : decode cX2_begin 21 = .ok (.aload_n 0, 1) := by decide +kernel
theorem dX2_begin_22 : decode cX2_begin 22 = .ok (.iconst (-1), 1) := by decide +kernel
theorem dX2_begin_23 : decode cX2_begin 23 = .ok (.putfield 40, 3) := by decide +kernel
theorem dX2_begin_26 : decode cX2_begin 26 = .ok (.aload_n 0, 1) := by decide +kernel
theorem dX2_begin_27 : decode cX2_begin 27 = .ok (.iconst (-1), 1) := by decide +kernel
theorem dX2_begin_28 : decode cX2_begin 28 = .ok (.putfield 44, 3) := by decide +kernel
theorem dX2_begin_31 : decode cX2_begin 31 = .ok (.aload_n 0, 1) := by decide +kernel
theorem dX2_begin_32 : decode cX2_begin 32 = .ok (.iconst 0, 1) := by decide +kernel
theorem dX2_begin_33 : decode cX2_begin 33 = .ok (.putfield 47, 3) := by decide +kernel
theorem dX2_begin_36 : decode cX2_begin 36 = .ok (.return_, 1) := by decide +kernel
set_option maxRecDepth 20000 in
theorem ggX2_walk_X4_sealInto : GoodIn wsX2_walk wsX4_sealInto := goodIn_r _ [11, 12, 13, 14, 15, 16, 17, 18, 19, 20, 21, 22, 23, 24, 25, 26, 27, 28, 29, 30, 31, 32, 33, 10, 34, 35, 36, 37, 38, 39, 40, 41, 42, 43, 44, 45, 46, 47, 48, 49, 50, 51, 52, 53, 54, 55, 56, 57, 58, 59, 60, 61, 62, 63, 64, 65, 66, 67, 68, 69, 70, 71, 72, 73, 74, 75, 76, 195, 196, 197, 198, 199, 200, 201, 202, 203, 204, 205] rfl (by decide +kernel)
set_option maxRecDepth 20000 in
theorem gX2_walk_X4_sealInto : GoodIn wsX2_walk (wsV RX2 67 RX4 yX4_sealInto wsX4_sealInto) := goodIn_app (goodIn_of _ (by decide +kernel)) ggX2_walk_X4_sealInto
set_option maxRecDepth 20000 in
theorem ggX2_walk_X1_isOfOthers : GoodIn wsX2_walk wsX1_isOfOthers := goodIn_r _ [81, 82, 83, 193, 194, 195, 196] rfl (by decide +kernel)
set_option maxRecDepth 20000 in
theorem gX2_walk_X1_isOfOthers : GoodIn wsX2_walk (wsV RX2 78 RX1 yX1_isOfOthers wsX1_isOfOthers) := goodIn_app (goodIn_of _ (by decide +kernel)) ggX2_walk_X1_isOfOthers
set_option maxRecDepth 20000 in
theorem ggX2_walk_X2_passOthers : GoodIn wsX2_walk wsX2_passOthers := goodIn_r _ [134, 1, 6, 93, 135, 136, 2, 137, 138, 3, 139, 140, 141, 142, 143, 87, 144, 4, 145, 146, 147, 19, 148, 21, 26, 121, 122, 123, 124, 125, 126, 127, 149, 150, 151, 10, 152, 153, 133, 8, 9, 11, 12, 13, 14, 15, 16, 17, 18, 20, 22, 23, 24, 25, 27, 28, 29, 30, 31, 32, 33, 34, 35, 36, 37, 38, 39, 40, 41, 42, 43, 44, 45, 46, 47, 48, 49, 50, 51, 52, 53, 54, 55, 56, 57, 58, 59, 60, 61, 62, 63, 64, 65, 66, 67, 68, 69, 70, 71, 72, 73, 74, 75, 76, 154, 155, 156, 157, 158, 159, 160, 161, 162, 163, 164, 165, 166, 167, 168, 169, 170, 171, 172, 173, 174, 175, 176, 132, 0, 5, 7, 77, 78, 79, 80, 81, 82, 83, 84, 85, 86, 88, 89, 90, 91, 92, 94, 95, 96, 97, 98, 99, 100, 101, 102, 103, 104, 105, 106, 107, 108, 109, 110, 111, 112, 113, 114, 115, 116, 117, 118, 119, 120, 128, 129, 130, 131, 177, 178, 179, 180, 181, 182, 183, 184, 185, 186, 187, 188, 189, 190, 191, 192, 193, 194, 195, 196, 197, 198, 199, 200, 201, 202, 203, 204, 205, 206, 207] rfl (by decide +kernel)
set_option maxRecDepth 20000 in
theorem gX2_walk_X2_passOthers : GoodIn wsX2_walk (wsV RX2 84 RX2 yX2_passOthers wsX2_passOthers) := goodIn_app (goodIn_of _ (by decide +kernel)) ggX2_walk_X2_passOthers
set_option maxRecDepth 20000 in
theorem ggX2_walk_X2_passOwn : GoodIn wsX2_walk wsX2_passOwn := goodIn_r _ [91, 1, 6, 92, 93, 2, 3, 94, 95, 96, 97, 98, 99, 100, 101, 102, 103, 104, 105, 106, 70, 71, 19, 72, 21, 26, 107, 108, 109, 110, 111, 112, 113, 114, 115, 116, 117, 118, 119, 120, 121, 122, 123, 87, 124, 125, 126, 127, 128, 129, 130, 10, 131, 132, 133, 8, 9, 11, 12, 13, 14, 15, 16, 17, 18, 20, 22, 23, 24, 25, 27, 28, 29, 30, 31, 32, 33, 34, 35, 36, 37, 38, 39, 40, 41, 42, 43, 44, 45, 46, 47, 48, 49, 50, 51, 52, 53, 54, 55, 56, 57, 58, 59, 60, 61, 62, 63, 64, 65, 66, 67, 68, 69, 73, 74, 75, 76, 177, 178, 179, 180, 181, 182, 183, 184, 185, 186, 187, 188, 189, 190, 191, 192, 193, 194, 206, 207, 195, 196, 197, 198, 199, 200, 201, 202, 203, 204, 205] rfl (by decide +kernel)
set_option maxRecDepth 20000 in
theorem gX2_walk_X2_passOwn : GoodIn wsX2_walk (wsV RX2 88 RX2 yX2_passOwn wsX2_passOwn) := goodIn_app (goodIn_of _ (by decide +kernel)) ggX2_walk_X2_passOwn
theorem dX2_walk_0 : decode cX2_walk 0 = .ok (.aload_n 0, 1) := by decide +kernel
theorem dX2_walk_1 : decode cX2_walk 1 = .ok (.getfield 11, 3) := by decide +kernel
theorem dX2_walk_4 : decode cX2_walk 4 = .ok (.iload_n 1, 1) := by decide +kernel
theorem dX2_walk_5 : decode cX2_walk 5 = .ok (.aaload, 1) := by decide +kernel
theorem dX2_walk_6 : decode cX2_walk 6 = .ok (.astore 4, 2) := by decide +kernel
theorem dX2_walk_8 : decode cX2_walk 8 = .ok (.aload_n 0, 1) := by decide +kernel
theorem dX2_walk_9 : decode cX2_walk 9 = .ok (.getfield 20, 3) := by decide +kernel
theorem dX2_walk_12 : decode cX2_walk 12 = .ok (.aload_n 0, 1) := by decide +kernel
theorem dX2_walk_13 : decode cX2_walk 13 = .ok (.getfield 33, 3) := by decide +kernel
theorem dX2_walk_16 : decode cX2_walk 16 = .ok (.iload_n 3, 1) := by decide +kernel
theorem dX2_walk_17 : decode cX2_walk 17 = .ok (.aaload, 1) := by decide +kernel
theorem dX2_walk_18 : decode cX2_walk 18 = .ok (.aload_n 2, 1) := by decide +kernel
theorem dX2_walk_19 : decode cX2_walk 19 = .ok (.aload 4, 2) := by decide +kernel
theorem dX2_walk_21 : decode cX2_walk 21 = .ok (.getfield 63, 3) := by decide +kernel
theorem dX2_walk_24 : decode cX2_walk 24 = .ok (.invokevirtual 67, 3) := by decide +kernel
theorem dX2_walk_27 : decode cX2_walk 27 = .ok (.iconst 0, 1) := by decide +kernel
theorem dX2_walk_28 : decode cX2_walk 28 = .ok (.istore 5, 2) := by decide +kernel
theorem dX2_walk_30 : decode cX2_walk 30 = .ok (.iload 5, 2) := by decide +kernel
theorem dX2_walk_32 : decode cX2_walk 32 = .ok (.aload 4, 2) := by decide +kernel
theorem dX2_walk_34 : decode cX2_walk 34 = .ok (.getfield 71, 3) := by decide +kernel
theorem dX2_walk_37 : decode cX2_walk 37 = .ok (.if_icmp .ge 51, 3) := by decide +kernel
theorem dX2_walk_40 : decode cX2_walk 40 = .ok (.aload 4, 2) := by decide +kernel
theorem dX2_walk_42 : decode cX2_walk 42 = .ok (.getfield 74, 3) := by decide +kernel
theorem dX2_walk_45 : decode cX2_walk 45 = .ok (.iload 5, 2) := by decide +kernel
theorem dX2_walk_47 : decode cX2_walk 47 = .ok (.aaload, 1) := by decide +kernel
theorem dX2_walk_48 : decode cX2_walk 48 = .ok (.invokevirtual 78, 3) := by decide +kernel
theorem dX2_walk_51 : decode cX2_walk 51 = .ok (.ifCond .eq 14, 3) := by decide +kernel
theorem dX2_walk_54 : decode cX2_walk 54 = .ok (.aload_n 0, 1) := by decide +kernel
theorem dX2_walk_55 : decode cX2_walk 55 = .ok (.iload_n 1, 1) := by decide +kernel
theorem dX2_walk_56 : decode cX2_walk 56 = .ok (.iload 5, 2) := by decide +kernel
theorem dX2_walk_58 : decode cX2_walk 58 = .ok (.iload_n 3, 1) := by decide +kernel
theorem dX2_walk_59 : decode cX2_walk 59 = .ok (.invokevirtual 84, 3) := by decide +kernel
theorem dX2_walk_62 : decode cX2_walk 62 = .ok (.goto 11, 3) := by decide +kernel
theorem dX2_walk_65 : decode cX2_walk 65 = .ok (.aload_n 0, 1) := by decide +kernel
theorem dX2_walk_66 : decode cX2_walk 66 = .ok (.iload_n 1, 1) := by decide +kernel
theorem dX2_walk_67 : decode cX2_walk 67 = .ok (.iload 5, 2) := by decide +kernel
theorem dX2_walk_69 : decode cX2_walk 69 = .ok (.iload_n 3, 1) := by decide +kernel
theorem dX2_walk_70 : decode cX2_walk 70 = .ok (.invokevirtual 88, 3) := by decide +kernel
theorem dX2_walk_73 : decode cX2_walk 73 = .ok (.istore 6, 2) := by decide +kernel
theorem dX2_walk_75 : decode cX2_walk 75 = .ok (.iload 6, 2) := by decide +kernel
theorem dX2_walk_77 : decode cX2_walk 77 = .ok (.ifCond .ne 5, 3) := by decide +kernel
theorem dX2_walk_80 : decode cX2_walk 80 = .ok (.iconst 0, 1) := by decide +kernel
theorem dX2_walk_81 : decode cX2_walk 81 = .ok (.ireturn, 1) := by decide +kernel
theorem dX2_walk_82 : decode cX2_walk 82 = .ok (.iinc 5 1, 3) := by decide +kernel
theorem dX2_walk_85 : decode cX2_walk 85 = .ok (.goto (-55), 3) := by decide +kernel
theorem dX2_walk_88 : decode cX2_walk 88 = .ok (.iconst 1, 1) := by decide +kernel
theorem dX2_walk_89 : decode cX2_walk 89 = .ok (.ireturn, 1) := by decide +kernel
set_option maxRecDepth 20000 in
theorem ggX2_compareSign_X3_isSameAs : GoodIn wsX2_compareSign wsX3_isSameAs := goodIn_r _ [10, 11, 12, 37, 38] rfl (by decide +kernel)
set_option maxRecDepth 20000 in
theorem gX2_compareSign_X3_isSameAs : GoodIn wsX2_compareSign (wsV RX2 94 RX3 yX3_isSameAs wsX3_isSameAs) := goodIn_app (goodIn_of _ (by decide +kernel)) ggX2_compareSign_X3_isSameAs
set_option maxRecDepth 20000 in
theorem ggX2_compareSign_X2_stopAt : GoodIn wsX2_compareSign wsX2_stopAt := goodIn_r _ [17, 18, 19, 20, 21, 22, 23, 24, 25, 26, 27, 28, 29, 30, 31] rfl (by decide +kernel)
set_option maxRecDepth 20000 in
theorem gX2_compareSign_X2_stopAt : GoodIn wsX2_compareSign (wsV RX2 98 RX2 yX2_stopAt wsX2_stopAt) := goodIn_app (goodIn_of _ (by decide +kernel)) ggX2_compareSign_X2_stopAt
theorem dX2_compareSign_0 : decode cX2_compareSign 0 = .ok (.aload_n 0, 1) := by decide +kernel
theorem dX2_compareSign_1 : decode cX2_compareSign 1 = .ok (.getfield 33, 3) := by decide +kernel
theorem dX2_compareSign_4 : decode cX2_compareSign 4 = .ok (.iconst 0, 1) := by decide +kernel
theorem dX2_compareSign_5 : decode cX2_compareSign 5 = .ok (.aaload, 1) := by decide +kernel
theorem dX2_compareSign_6 : decode cX2_compareSign 6 = .ok (.aload_n 0, 1) := by decide +kernel
theorem dX2_compareSign_7 : decode cX2_compareSign 7 = .ok (.getfield 11, 3) := by decide +kernel
theorem dX2_compareSign_10 : decode cX2_compareSign 10 = .ok (.aload_n 0, 1) := by decide +kernel
theorem dX2_compareSign_11 : decode cX2_compareSign 11 = .ok (.getfield 54, 3) := by decide +kernel
theorem dX2_compareSign_14 : decode cX2_compareSign 14 = .ok (.aaload, 1) := by decide +kernel
theorem dX2_compareSign_15 : decode cX2_compareSign 15 = .ok (.getfield 91, 3) := by decide +kernel
theorem dX2_compareSign_18 : decode cX2_compareSign 18 = .ok (.invokevirtual 94, 3) := by decide +kernel
theorem dX2_compareSign_21 : decode cX2_compareSign 21 = .ok (.ifCond .ne 25, 3) := by decide +kernel
theorem dX2_compareSign_24 : decode cX2_compareSign 24 = .ok (.aload_n 0, 1) := by decide +kernel
theorem dX2_compareSign_25 : decode cX2_compareSign 25 = .ok (.iconst 5, 1) := by decide +kernel
theorem dX2_compareSign_26 : decode cX2_compareSign 26 = .ok (.aload_n 0, 1) := by decide +kernel
theorem dX2_compareSign_27 : decode cX2_compareSign 27 = .ok (.getfield 54, 3) := by decide +kernel
theorem dX2_compareSign_30 : decode cX2_compareSign 30 = .ok (.aload_n 0, 1) := by decide +kernel
theorem dX2_compareSign_31 : decode cX2_compareSign 31 = .ok (.getfield 11, 3) := by decide +kernel
theorem dX2_compareSign_34 : decode cX2_compareSign 34 = .ok (.aload_n 0, 1) := by decide +kernel
theorem dX2_compareSign_35 : decode cX2_compareSign 35 = .ok (.getfield 54, 3) := by decide +kernel
theorem dX2_compareSign_38 : decode cX2_compareSign 38 = .ok (.aaload, 1) := by decide +kernel
theorem dX2_compareSign_39 : decode cX2_compareSign 39 = .ok (.getfield 71, 3) := by decide +kernel
theorem dX2_compareSign_42 : decode cX2_compareSign 42 = .ok (.invokevirtual 98, 3) := by decide +kernel
theorem dX2_compareSign_45 : decode cX2_compareSign 45 = .ok (.pop, 1) := by decide +kernel
theorem dX2_compareSign_46 : decode cX2_compareSign 46 = .ok (.return_, 1) := by decide +kernel
set_option maxRecDepth 20000 in
theorem ggX2_passOwn_X0_judgeText : GoodIn wsX2_passOwn wsX0_judgeText := goodIn_r _ [11, 12, 13, 14, 15, 16, 10, 17, 18, 19, 20, 21, 22, 23, 24, 25, 26, 27, 28, 29, 30, 31, 32, 33, 34, 35, 36, 37, 38, 39, 135, 136, 137, 138] rfl (by decide +kernel)
set_option maxRecDepth 20000 in
theorem gX2_passOwn_X0_judgeText : GoodIn wsX2_passOwn (wsV RX2 104 RX0 yX0_judgeText wsX0_judgeText) := goodIn_app (goodIn_of _ (by decide +kernel)) ggX2_passOwn_X0_judgeText
set_option maxRecDepth 20000 in
theorem ggX2_passOwn_X2_stopAt : GoodIn wsX2_passOwn wsX2_stopAt := goodIn_r _ [44, 45, 46, 47, 117, 118, 119, 120, 121, 122, 123, 124, 125, 126, 127] rfl (by decide +kernel)
set_option maxRecDepth 20000 in
theorem gX2_passOwn_X2_stopAt : GoodIn wsX2_passOwn (wsV RX2 98 RX2 yX2_stopAt wsX2_stopAt) := goodIn_app (goodIn_of _ (by decide +kernel)) ggX2_passOwn_X2_stopAt
set_option maxRecDepth 20000 in
theorem ggX2_passOwn_X4_goOnOwn : GoodIn wsX2_passOwn wsX4_goOnOwn := goodIn_r _ [52, 53, 54, 55, 56, 51, 57, 58, 59, 60, 61, 62, 63, 64, 22, 65, 24, 66, 67, 68, 69, 25, 70, 71, 72, 73, 74, 75, 76, 77, 78, 79, 80, 81, 82, 83, 84, 85, 86, 87, 88, 89, 90, 91, 92, 93, 94, 95, 96, 97, 98, 99, 100, 101, 102, 103, 104, 105, 106, 107, 108, 109, 110, 111, 112, 20, 21, 23, 113, 114, 115, 116, 133, 134, 137, 138, 139, 140, 141, 142, 143, 144, 145, 146, 147] rfl (by decide +kernel)
set_option maxRecDepth 20000 in
theorem gX2_passOwn_X4_goOnOwn : GoodIn wsX2_passOwn (wsV RX2 108 RX4 yX4_goOnOwn wsX4_goOnOwn) := goodIn_app (goodIn_of _ (by decide +kernel)) ggX2_passOwn_X4_goOnOwn
theorem dX2_passOwn_0 : decode cX2_passOwn 0 = .ok (.aload_n 0, 1) := by decide +kernel
theorem dX2_passOwn_1 : decode cX2_passOwn 1 = .ok (.getfield 11, 3) := by decide +kernel
theorem dX2_passOwn_4 : decode cX2_passOwn 4 = .ok (.iload_n 1, 1) := by decide +kernel
theorem dX2_passOwn_5 : decode cX2_passOwn 5 = .ok (.aaload, 1) := by decide +kernel
theorem dX2_passOwn_6 : decode cX2_passOwn 6 = .ok (.getfield 74, 3) := by decide +kernel
theorem dX2_passOwn_9 : decode cX2_passOwn 9 = .ok (.iload_n 2, 1) := by decide +kernel
theorem dX2_passOwn_10 : decode cX2_passOwn 10 = .ok (.aaload, 1) := by decide +kernel
theorem dX2_passOwn_11 : decode cX2_passOwn 11 = .ok (.astore 4, 2) := by decide +kernel
theorem dX2_passOwn_13 : decode cX2_passOwn 13 = .ok (.aload_n 0, 1) := by decide +kernel
theorem dX2_passOwn_14 : decode cX2_passOwn 14 = .ok (.getfield 27, 3) := by decide +kernel
theorem dX2_passOwn_17 : decode cX2_passOwn 17 = .ok (.aload 4, 2) := by decide +kernel
theorem dX2_passOwn_19 : decode cX2_passOwn 19 = .ok (.getfield 101, 3) := by decide +kernel
theorem dX2_passOwn_22 : decode cX2_passOwn 22 = .ok (.invokevirtual 104, 3) := by decide +kernel
theorem dX2_passOwn_25 : decode cX2_passOwn 25 = .ok (.istore 5, 2) := by decide +kernel
theorem dX2_passOwn_27 : decode cX2_passOwn 27 = .ok (.iload 5, 2) := by decide +kernel
theorem dX2_passOwn_29 : decode cX2_passOwn 29 = .ok (.iconst 1, 1) := by decide +kernel
theorem dX2_passOwn_30 : decode cX2_passOwn 30 = .ok (.if_icmp .eq 21, 3) := by decide +kernel
theorem dX2_passOwn_33 : decode cX2_passOwn 33 = .ok (.aload_n 0, 1) := by decide +kernel
theorem dX2_passOwn_34 : decode cX2_passOwn 34 = .ok (.iload 5, 2) := by decide +kernel
theorem dX2_passOwn_36 : decode cX2_passOwn 36 = .ok (.iconst (-1), 1) := by decide +kernel
theorem dX2_passOwn_37 : decode cX2_passOwn 37 = .ok (.if_icmp .ne 7, 3) := by decide +kernel
theorem dX2_passOwn_40 : decode cX2_passOwn 40 = .ok (.iconst 1, 1) := by decide +kernel
theorem dX2_passOwn_41 : decode cX2_passOwn 41 = .ok (.goto 4, 3) := by decide +kernel
theorem dX2_passOwn_44 : decode cX2_passOwn 44 = .ok (.iconst 2, 1) := by decide +kernel
theorem dX2_passOwn_45 : decode cX2_passOwn 45 = .ok (.iload_n 1, 1) := by decide +kernel
theorem dX2_passOwn_46 : decode cX2_passOwn 46 = .ok (.iload_n 2, 1) := by decide +kernel
theorem dX2_passOwn_47 : decode cX2_passOwn 47 = .ok (.invokevirtual 98, 3) := by decide +kernel
theorem dX2_passOwn_50 : decode cX2_passOwn 50 = .ok (.ireturn, 1) := by decide +kernel
theorem dX2_passOwn_51 : decode cX2_passOwn 51 = .ok (.aload_n 0, 1) := by decide +kernel
theorem dX2_passOwn_52 : decode cX2_passOwn 52 = .ok (.getfield 20, 3) := by decide +kernel
theorem dX2_passOwn_55 : decode cX2_passOwn 55 = .ok (.aload_n 0, 1) := by decide +kernel
theorem dX2_passOwn_56 : decode cX2_passOwn 56 = .ok (.getfield 33, 3) := by decide +kernel
theorem dX2_passOwn_59 : decode cX2_passOwn 59 = .ok (.iload_n 3, 1) := by decide +kernel
theorem dX2_passOwn_60 : decode cX2_passOwn 60 = .ok (.aaload, 1) := by decide +kernel
theorem dX2_passOwn_61 : decode cX2_passOwn 61 = .ok (.aload 4, 2) := by decide +kernel
theorem dX2_passOwn_63 : decode cX2_passOwn 63 = .ok (.invokevirtual 108, 3) := by decide +kernel
theorem dX2_passOwn_66 : decode cX2_passOwn 66 = .ok (.iconst 1, 1) := by decide +kernel
theorem dX2_passOwn_67 : decode cX2_passOwn 67 = .ok (.ireturn, 1) := by decide +kernel
set_option maxRecDepth 20000 in
theorem ggX2_passOthers_X2_helperNamed : GoodIn wsX2_passOthers wsX2_helperNamed := goodIn_r _ [16, 4, 1, 17, 18, 19, 20, 21, 22, 23, 24, 177, 178, 179, 180, 181, 182, 183, 184, 185, 186, 187, 188, 189, 190, 191, 192, 195, 196] rfl (by decide +kernel)
set_option maxRecDepth 20000 in
theorem gX2_passOthers_X2_helperNamed : GoodIn wsX2_passOthers (wsV RX2 112 RX2 yX2_helperNamed wsX2_helperNamed) := goodIn_app (goodIn_of _ (by decide +kernel)) ggX2_passOthers_X2_helperNamed
set_option maxRecDepth 20000 in
theorem ggX2_passOthers_X2_stopAt : GoodIn wsX2_passOthers wsX2_stopAt := goodIn_r _ [28, 29, 30, 31, 177, 178, 179, 180, 181, 182, 183, 184, 185, 186, 187] rfl (by decide +kernel)
set_option maxRecDepth 20000 in
theorem gX2_passOthers_X2_stopAt : GoodIn wsX2_passOthers (wsV RX2 98 RX2 yX2_stopAt wsX2_stopAt) := goodIn_app (goodIn_of _ (by decide +kernel)) ggX2_passOthers_X2_stopAt
set_option maxRecDepth 20000 in
theorem ggX2_passOthers_X4_turnKey : GoodIn wsX2_passOthers wsX4_turnKey := goodIn_r _ [36, 37, 38, 39, 40, 35, 41, 42, 43, 44, 45, 46, 47, 48, 21, 49, 23, 50, 51, 52, 53, 24, 54, 55, 56, 57, 58, 59, 60, 61, 62, 63, 64, 65, 66, 67, 68, 69, 70, 71, 72, 73, 74, 75, 76, 77, 78, 79, 80, 81, 82, 83, 84, 85, 86, 87, 88, 89, 90, 91, 92, 93, 94, 95, 96, 97, 98, 99, 100, 101, 102, 103, 104, 105, 106, 107, 108, 109, 110, 111, 197, 198, 199, 200, 201, 202, 203, 204, 205, 195, 196] rfl (by decide +kernel)
set_option maxRecDepth 20000 in
theorem gX2_passOthers_X4_turnKey : GoodIn wsX2_passOthers (wsV RX2 118 RX4 yX4_turnKey wsX4_turnKey) := goodIn_app (goodIn_of _ (by decide +kernel)) ggX2_passOthers_X4_turnKey
set_option maxRecDepth 20000 in
theorem ggX2_passOthers_X2_walk : GoodIn wsX2_passOthers wsX2_walk := goodIn_r _ [128, 1, 6, 9, 17, 129, 2, 130, 39, 40, 35, 41, 42, 43, 44, 45, 46, 47, 48, 21, 49, 23, 50, 51, 52, 53, 24, 54, 55, 56, 57, 58, 59, 60, 61, 62, 63, 64, 65, 66, 67, 68, 69, 70, 71, 72, 73, 74, 75, 76, 77, 78, 79, 80, 81, 82, 83, 84, 85, 86, 87, 88, 89, 90, 91, 92, 93, 94, 95, 96, 97, 98, 99, 100, 101, 102, 103, 131, 132, 133, 134, 135, 136, 137, 138, 139, 140, 15, 141, 142, 143, 144, 145, 3, 146, 147, 148, 149, 150, 151, 152, 153, 154, 155, 156, 157, 158, 159, 160, 161, 162, 163, 164, 165, 166, 167, 168, 169, 170, 171, 172, 25, 26, 27, 28, 29, 30, 31, 173, 174, 175, 176, 127, 38, 0, 4, 5, 7, 8, 10, 11, 12, 13, 14, 16, 18, 19, 20, 22, 32, 33, 34, 36, 37, 104, 105, 106, 107, 108, 109, 110, 111, 112, 113, 114, 115, 116, 117, 118, 119, 120, 121, 122, 123, 124, 125, 126, 177, 178, 179, 180, 181, 182, 183, 184, 185, 186, 187, 188, 189, 190, 191, 192, 193, 194, 195, 196, 197, 198, 199, 200, 201, 202, 203, 204, 205, 206, 207] rfl (by decide +kernel)
set_option maxRecDepth 20000 in
theorem gX2_passOthers_X2_walk : GoodIn wsX2_passOthers (wsV RX2 122 RX2 yX2_walk wsX2_walk) := goodIn_app (goodIn_of _ (by decide +kernel)) ggX2_passOthers_X2_walk
set_option maxRecDepth 20000 in
theorem ggX2_passOthers_X4_bindSign : GoodIn wsX2_passOthers wsX4_bindSign := goodIn_r _ [118, 119, 120, 46, 47, 48, 21, 49, 23, 50, 51, 52, 53, 24, 54, 55, 56, 57, 100, 101, 102, 103, 38, 39, 40, 35, 41, 42, 43, 44, 45, 58, 59, 60, 61, 62, 63, 64, 65, 66, 67, 68, 69, 70, 71, 72, 73, 74, 75, 76, 77, 78, 79, 80, 81, 82, 83, 84, 85, 86, 87, 88, 89, 90, 91, 92, 93, 94, 95, 96, 97, 98, 99, 197, 198, 199, 200, 201, 202, 203, 204, 205, 195, 196] rfl (by decide +kernel)
set_option maxRecDepth 20000 in
theorem gX2_passOthers_X4_bindSign : GoodIn wsX2_passOthers (wsV RX2 126 RX4 yX4_bindSign wsX4_bindSign) := goodIn_app (goodIn_of _ (by decide +kernel)) ggX2_passOthers_X4_bindSign
set_option maxRecDepth 20000 in
theorem ggX2_passOthers_X3_isSameAs : GoodIn wsX2_passOthers wsX3_isSameAs := goodIn_r _ [22, 23, 24, 195, 196] rfl (by decide +kernel)
set_option maxRecDepth 20000 in
theorem gX2_passOthers_X3_isSameAs : GoodIn wsX2_passOthers (wsV RX2 94 RX3 yX3_isSameAs wsX3_isSameAs) := goodIn_app (goodIn_of _ (by decide +kernel)) ggX2_passOthers_X3_isSameAs
set_option maxRecDepth 20000 in
theorem ggX2_passOthers_X4_goOnOthers : GoodIn wsX2_passOthers wsX4_goOnOthers := goodIn_r _ [124, 125, 126, 37, 127, 119, 38, 39, 40, 35, 41, 42, 43, 44, 45, 46, 47, 48, 21, 49, 23, 50, 51, 52, 53, 24, 54, 55, 56, 57, 58, 59, 60, 61, 62, 63, 64, 65, 66, 67, 68, 69, 70, 71, 72, 73, 74, 75, 76, 77, 78, 79, 80, 81, 82, 83, 84, 85, 86, 87, 88, 89, 90, 91, 92, 93, 94, 95, 96, 97, 98, 99, 100, 101, 102, 103, 197, 198, 199, 200, 201, 202, 203, 204, 205, 193, 194, 195, 196] rfl (by decide +kernel)
set_option maxRecDepth 20000 in
theorem gX2_passOthers_X4_goOnOthers : GoodIn wsX2_passOthers (wsV RX2 130 RX4 yX4_goOnOthers wsX4_goOnOthers) := goodIn_app (goodIn_of _ (by decide +kernel)) ggX2_passOthers_X4_goOnOthers
theorem dX2_passOthers_0 : decode cX2_passOthers 0 = .ok (.aload_n 0, 1) := by decide +kernel
theorem dX2_passOthers_1 : decode cX2_passOthers 1 = .ok (.getfield 11, 3) := by decide +kernel
theorem dX2_passOthers_4 : decode cX2_passOthers 4 = .ok (.iload_n 1, 1) := by decide +kernel
theorem dX2_passOthers_5 : decode cX2_passOthers 5 = .ok (.aaload, 1) := by decide +kernel
theorem dX2_passOthers_6 : decode cX2_passOthers 6 = .ok (.getfield 74, 3) := by decide +kernel
theorem dX2_passOthers_9 : decode cX2_passOthers 9 = .ok (.iload_n 2, 1) := by decide +kernel
theorem dX2_passOthers_10 : decode cX2_passOthers 10 = .ok (.aaload, 1) := by decide +kernel
theorem dX2_passOthers_11 : decode cX2_passOthers 11 = .ok (.astore 4, 2) := by decide +kernel
theorem dX2_passOthers_13 : decode cX2_passOthers 13 = .ok (.iload_n 3, 1) := by decide +kernel
theorem dX2_passOthers_14 : decode cX2_passOthers 14 = .ok (.iconst 1, 1) := by decide +kernel
theorem dX2_passOthers_15 : decode cX2_passOthers 15 = .ok (.iadd, 1) := by decide +kernel
theorem dX2_passOthers_16 : decode cX2_passOthers 16 = .ok (.bipush 8, 2) := by decide +kernel
theorem dX2_passOthers_18 : decode cX2_passOthers 18 = .ok (.if_icmp .ge 15, 3) := by decide +kernel
theorem dX2_passOthers_21 : decode cX2_passOthers 21 = .ok (.aload_n 0, 1) := by decide +kernel
theorem dX2_passOthers_22 : decode cX2_passOthers 22 = .ok (.aload 4, 2) := by decide +kernel
theorem dX2_passOthers_24 : decode cX2_passOthers 24 = .ok (.getfield 101, 3) := by decide +kernel
theorem dX2_passOthers_27 : decode cX2_passOthers 27 = .ok (.invokevirtual 112, 3) := by decide +kernel
theorem dX2_passOthers_30 : decode cX2_passOthers 30 = .ok (.goto 4, 3) := by decide +kernel
theorem dX2_passOthers_33 : decode cX2_passOthers 33 = .ok (.iconst (-1), 1) := by decide +kernel
theorem dX2_passOthers_34 : decode cX2_passOthers 34 = .ok (.istore 5, 2) := by decide +kernel
theorem dX2_passOthers_36 : decode cX2_passOthers 36 = .ok (.iload 5, 2) := by decide +kernel
theorem dX2_passOthers_38 : decode cX2_passOthers 38 = .ok (.iconst (-1), 1) := by decide +kernel
theorem dX2_passOthers_39 : decode cX2_passOthers 39 = .ok (.if_icmp .ne 11, 3) := by decide +kernel
theorem dX2_passOthers_42 : decode cX2_passOthers 42 = .ok (.aload_n 0, 1) := by decide +kernel
theorem dX2_passOthers_43 : decode cX2_passOthers 43 = .ok (.iconst 3, 1) := by decide +kernel
theorem dX2_passOthers_44 : decode cX2_passOthers 44 = .ok (.iload_n 1, 1) := by decide +kernel
theorem dX2_passOthers_45 : decode cX2_passOthers 45 = .ok (.iload_n 2, 1) := by decide +kernel
theorem dX2_passOthers_46 : decode cX2_passOthers 46 = .ok (.invokevirtual 98, 3) := by decide +kernel
theorem dX2_passOthers_49 : decode cX2_passOthers 49 = .ok (.ireturn, 1) := by decide +kernel
theorem dX2_passOthers_50 : decode cX2_passOthers 50 = .ok (.aload_n 0, 1) := by decide +kernel
theorem dX2_passOthers_51 : decode cX2_passOthers 51 = .ok (.dup, 1) := by decide +kernel
theorem dX2_passOthers_52 : decode cX2_passOthers 52 = .ok (.getfield 57, 3) := by decide +kernel
theorem dX2_passOthers_55 : decode cX2_passOthers 55 = .ok (.iconst 1, 1) := by decide +kernel
theorem dX2_passOthers_56 : decode cX2_passOthers 56 = .ok (.iload 5, 2) := by decide +kernel
theorem dX2_passOthers_58 : decode cX2_passOthers 58 = .ok (.ishl, 1) := by decide +kernel
theorem dX2_passOthers_59 : decode cX2_passOthers 59 = .ok (.iconst (-1), 1) := by decide +kernel
theorem dX2_passOthers_60 : decode cX2_passOthers 60 = .ok (.ixor, 1) := by decide +kernel
theorem dX2_passOthers_61 : decode cX2_passOthers 61 = .ok (.iand, 1) := by decide +kernel
theorem dX2_passOthers_62 : decode cX2_passOthers 62 = .ok (.putfield 57, 3) := by decide +kernel
theorem dX2_passOthers_65 : decode cX2_passOthers 65 = .ok (.aload_n 0, 1) := by decide +kernel
theorem dX2_passOthers_66 : decode cX2_passOthers 66 = .ok (.dup, 1) := by decide +kernel
theorem dX2_passOthers_67 : decode cX2_passOthers 67 = .ok (.getfield 47, 3) := by decide +kernel
theorem dX2_passOthers_70 : decode cX2_passOthers 70 = .ok (.iconst 1, 1) := by decide +kernel
theorem dX2_passOthers_71 : decode cX2_passOthers 71 = .ok (.iadd, 1) := by decide +kernel
theorem dX2_passOthers_72 : decode cX2_passOthers 72 = .ok (.putfield 47, 3) := by decide +kernel
theorem dX2_passOthers_75 : decode cX2_passOthers 75 = .ok (.aload_n 0, 1) := by decide +kernel
theorem dX2_passOthers_76 : decode cX2_passOthers 76 = .ok (.getfield 20, 3) := by decide +kernel
theorem dX2_passOthers_79 : decode cX2_passOthers 79 = .ok (.aload_n 0, 1) := by decide +kernel
theorem dX2_passOthers_80 : decode cX2_passOthers 80 = .ok (.getfield 37, 3) := by decide +kernel
theorem dX2_passOthers_83 : decode cX2_passOthers 83 = .ok (.iload_n 3, 1) := by decide +kernel
theorem dX2_passOthers_84 : decode cX2_passOthers 84 = .ok (.aaload, 1) := by decide +kernel
theorem dX2_passOthers_85 : decode cX2_passOthers 85 = .ok (.aload 4, 2) := by decide +kernel
theorem dX2_passOthers_87 : decode cX2_passOthers 87 = .ok (.getfield 115, 3) := by decide +kernel
theorem dX2_passOthers_90 : decode cX2_passOthers 90 = .ok (.aload_n 0, 1) := by decide +kernel
theorem dX2_passOthers_91 : decode cX2_passOthers 91 = .ok (.getfield 33, 3) := by decide +kernel
theorem dX2_passOthers_94 : decode cX2_passOthers 94 = .ok (.iload_n 3, 1) := by decide +kernel
theorem dX2_passOthers_95 : decode cX2_passOthers 95 = .ok (.aaload, 1) := by decide +kernel
theorem dX2_passOthers_96 : decode cX2_passOthers 96 = .ok (.aload 4, 2) := by decide +kernel
theorem dX2_passOthers_98 : decode cX2_passOthers 98 = .ok (.getfield 101, 3) := by decide +kernel
theorem dX2_passOthers_101 : decode cX2_passOthers 101 = .ok (.invokevirtual 118, 3) := by decide +kernel
theorem dX2_passOthers_104 : decode cX2_passOthers 104 = .ok (.aload_n 0, 1) := by decide +kernel
theorem dX2_passOthers_105 : decode cX2_passOthers 105 = .ok (.iload 5, 2) := by decide +kernel
theorem dX2_passOthers_107 : decode cX2_passOthers 107 = .ok (.aload_n 0, 1) := by decide +kernel
theorem dX2_passOthers_108 : decode cX2_passOthers 108 = .ok (.getfield 37, 3) := by decide +kernel
theorem dX2_passOthers_111 : decode cX2_passOthers 111 = .ok (.iload_n 3, 1) := by decide +kernel
theorem dX2_passOthers_112 : decode cX2_passOthers 112 = .ok (.aaload, 1) := by decide +kernel
theorem dX2_passOthers_113 : decode cX2_passOthers 113 = .ok (.iload_n 3, 1) := by decide +kernel
theorem dX2_passOthers_114 : decode cX2_passOthers 114 = .ok (.iconst 1, 1) := by decide +kernel
theorem dX2_passOthers_115 : decode cX2_passOthers 115 = .ok (.iadd, 1) := by decide +kernel
theorem dX2_passOthers_116 : decode cX2_passOthers 116 = .ok (.invokevirtual 122, 3) := by decide +kernel
theorem dX2_passOthers_119 : decode cX2_passOthers 119 = .ok (.ifCond .ne 5, 3) := by decide +kernel
theorem dX2_passOthers_122 : decode cX2_passOthers 122 = .ok (.iconst 0, 1) := by decide +kernel
theorem dX2_passOthers_123 : decode cX2_passOthers 123 = .ok (.ireturn, 1) := by decide +kernel
theorem dX2_passOthers_124 : decode cX2_passOthers 124 = .ok (.aload_n 0, 1) := by decide +kernel
theorem dX2_passOthers_125 : decode cX2_passOthers 125 = .ok (.getfield 33, 3) := by decide +kernel
theorem dX2_passOthers_128 : decode cX2_passOthers 128 = .ok (.iload_n 3, 1) := by decide +kernel
theorem dX2_passOthers_129 : decode cX2_passOthers 129 = .ok (.iconst 1, 1) := by decide +kernel
theorem dX2_passOthers_130 : decode cX2_passOthers 130 = .ok (.iadd, 1) := by decide +kernel
theorem dX2_passOthers_131 : decode cX2_passOthers 131 = .ok (.aaload, 1) := by decide +kernel
theorem dX2_passOthers_132 : decode cX2_passOthers 132 = .ok (.astore 6, 2) := by decide +kernel
theorem dX2_passOthers_134 : decode cX2_passOthers 134 = .ok (.aload_n 0, 1) := by decide +kernel
theorem dX2_passOthers_135 : decode cX2_passOthers 135 = .ok (.getfield 20, 3) := by decide +kernel
theorem dX2_passOthers_138 : decode cX2_passOthers 138 = .ok (.aload 6, 2) := by decide +kernel
theorem dX2_passOthers_140 : decode cX2_passOthers 140 = .ok (.aload_n 0, 1) := by decide +kernel
theorem dX2_passOthers_141 : decode cX2_passOthers 141 = .ok (.getfield 11, 3) := by decide +kernel
theorem dX2_passOthers_144 : decode cX2_passOthers 144 = .ok (.aload_n 0, 1) := by decide +kernel
theorem dX2_passOthers_145 : decode cX2_passOthers 145 = .ok (.getfield 54, 3) := by decide +kernel
theorem dX2_passOthers_148 : decode cX2_passOthers 148 = .ok (.aaload, 1) := by decide +kernel
theorem dX2_passOthers_149 : decode cX2_passOthers 149 = .ok (.getfield 91, 3) := by decide +kernel
theorem dX2_passOthers_152 : decode cX2_passOthers 152 = .ok (.invokevirtual 126, 3) := by decide +kernel
theorem dX2_passOthers_155 : decode cX2_passOthers 155 = .ok (.aload 6, 2) := by decide +kernel
theorem dX2_passOthers_157 : decode cX2_passOthers 157 = .ok (.aload_n 0, 1) := by decide +kernel
theorem dX2_passOthers_158 : decode cX2_passOthers 158 = .ok (.getfield 11, 3) := by decide +kernel
theorem dX2_passOthers_161 : decode cX2_passOthers 161 = .ok (.iload 5, 2) := by decide +kernel
theorem dX2_passOthers_163 : decode cX2_passOthers 163 = .ok (.aaload, 1) := by decide +kernel
theorem dX2_passOthers_164 : decode cX2_passOthers 164 = .ok (.getfield 91, 3) := by decide +kernel
theorem dX2_passOthers_167 : decode cX2_passOthers 167 = .ok (.invokevirtual 94, 3) := by decide +kernel
theorem dX2_passOthers_170 : decode cX2_passOthers 170 = .ok (.ifCond .ne 12, 3) := by decide +kernel
theorem dX2_passOthers_173 : decode cX2_passOthers 173 = .ok (.aload_n 0, 1) := by decide +kernel
theorem dX2_passOthers_174 : decode cX2_passOthers 174 = .ok (.iconst 4, 1) := by decide +kernel
theorem dX2_passOthers_175 : decode cX2_passOthers 175 = .ok (.iload 5, 2) := by decide +kernel
theorem dX2_passOthers_177 : decode cX2_passOthers 177 = .ok (.iload_n 2, 1) := by decide +kernel
theorem dX2_passOthers_178 : decode cX2_passOthers 178 = .ok (.invokevirtual 98, 3) := by decide +kernel
theorem dX2_passOthers_181 : decode cX2_passOthers 181 = .ok (.ireturn, 1) := by decide +kernel
theorem dX2_passOthers_182 : decode cX2_passOthers 182 = .ok (.aload_n 0, 1) := by decide +kernel
theorem dX2_passOthers_183 : decode cX2_passOthers 183 = .ok (.getfield 20, 3) := by decide +kernel
theorem dX2_passOthers_186 : decode cX2_passOthers 186 = .ok (.aload_n 0, 1) := by decide +kernel
theorem dX2_passOthers_187 : decode cX2_passOthers 187 = .ok (.getfield 33, 3) := by decide +kernel
theorem dX2_passOthers_190 : decode cX2_passOthers 190 = .ok (.iload_n 3, 1) := by decide +kernel
theorem dX2_passOthers_191 : decode cX2_passOthers 191 = .ok (.aaload, 1) := by decide +kernel
theorem dX2_passOthers_192 : decode cX2_passOthers 192 = .ok (.aload 4, 2) := by decide +kernel
theorem dX2_passOthers_194 : decode cX2_passOthers 194 = .ok (.invokevirtual 130, 3) := by decide +kernel
theorem dX2_passOthers_197 : decode cX2_passOthers 197 = .ok (.iconst 1, 1) := by decide +kernel
theorem dX2_passOthers_198 : decode cX2_passOthers 198 = .ok (.ireturn, 1) := by decide +kernel
set_option maxRecDepth 20000 in
theorem ggX2_helperNamed_X3_isSameAs : GoodIn wsX2_helperNamed wsX3_isSameAs := goodIn_r _ [8, 9, 10, 27, 28] rfl (by decide +kernel)
set_option maxRecDepth 20000 in
theorem gX2_helperNamed_X3_isSameAs : GoodIn wsX2_helperNamed (wsV RX2 94 RX3 yX3_isSameAs wsX3_isSameAs) := goodIn_app (goodIn_of _ (by decide +kernel)) ggX2_helperNamed_X3_isSameAs
theorem dX2_helperNamed_0 : decode cX2_helperNamed 0 = .ok (.iconst 0, 1) := by decide +kernel
theorem dX2_helperNamed_1 : decode cX2_helperNamed 1 = .ok (.istore_n 2, 1) := by decide +kernel
theorem dX2_helperNamed_2 : decode cX2_helperNamed 2 = .ok (.iload_n 2, 1) := by decide +kernel
theorem dX2_helperNamed_3 : decode cX2_helperNamed 3 = .ok (.bipush 8, 2) := by decide +kernel
theorem dX2_helperNamed_5 : decode cX2_helperNamed 5 = .ok (.if_icmp .ge 39, 3) := by decide +kernel
theorem dX2_helperNamed_8 : decode cX2_helperNamed 8 = .ok (.aload_n 0, 1) := by decide +kernel
theorem dX2_helperNamed_9 : decode cX2_helperNamed 9 = .ok (.getfield 57, 3) := by decide +kernel
theorem dX2_helperNamed_12 : decode cX2_helperNamed 12 = .ok (.iload_n 2, 1) := by decide +kernel
theorem dX2_helperNamed_13 : decode cX2_helperNamed 13 = .ok (.ishr, 1) := by decide +kernel
theorem dX2_helperNamed_14 : decode cX2_helperNamed 14 = .ok (.iconst 1, 1) := by decide +kernel
theorem dX2_helperNamed_15 : decode cX2_helperNamed 15 = .ok (.iand, 1) := by decide +kernel
theorem dX2_helperNamed_16 : decode cX2_helperNamed 16 = .ok (.iconst 1, 1) := by decide +kernel
theorem dX2_helperNamed_17 : decode cX2_helperNamed 17 = .ok (.if_icmp .ne 21, 3) := by decide +kernel
theorem dX2_helperNamed_20 : decode cX2_helperNamed 20 = .ok (.aload_n 0, 1) := by decide +kernel
theorem dX2_helperNamed_21 : decode cX2_helperNamed 21 = .ok (.getfield 11, 3) := by decide +kernel
theorem dX2_helperNamed_24 : decode cX2_helperNamed 24 = .ok (.iload_n 2, 1) := by decide +kernel
theorem dX2_helperNamed_25 : decode cX2_helperNamed 25 = .ok (.aaload, 1) := by decide +kernel
theorem dX2_helperNamed_26 : decode cX2_helperNamed 26 = .ok (.getfield 63, 3) := by decide +kernel
theorem dX2_helperNamed_29 : decode cX2_helperNamed 29 = .ok (.aload_n 1, 1) := by decide +kernel
theorem dX2_helperNamed_30 : decode cX2_helperNamed 30 = .ok (.invokevirtual 94, 3) := by decide +kernel
theorem dX2_helperNamed_33 : decode cX2_helperNamed 33 = .ok (.ifCond .eq 5, 3) := by decide +kernel
theorem dX2_helperNamed_36 : decode cX2_helperNamed 36 = .ok (.iload_n 2, 1) := by decide +kernel
theorem dX2_helperNamed_37 : decode cX2_helperNamed 37 = .ok (.ireturn, 1) := by decide +kernel
theorem dX2_helperNamed_38 : decode cX2_helperNamed 38 = .ok (.iinc 2 1, 3) := by decide +kernel
theorem dX2_helperNamed_41 : decode cX2_helperNamed 41 = .ok (.goto (-39), 3) := by decide +kernel
theorem dX2_helperNamed_44 : decode cX2_helperNamed 44 = .ok (.iconst (-1), 1) := by decide +kernel
theorem dX2_helperNamed_45 : decode cX2_helperNamed 45 = .ok (.ireturn, 1) := by decide +kernel
theorem dX2_stopAt_0 : decode cX2_stopAt 0 = .ok (.aload_n 0, 1) := by decide +kernel
theorem dX2_stopAt_1 : decode cX2_stopAt 1 = .ok (.iload_n 1, 1) := by decide +kernel
theorem dX2_stopAt_2 : decode cX2_stopAt 2 = .ok (.putfield 60, 3) := by decide +kernel
theorem dX2_stopAt_5 : decode cX2_stopAt 5 = .ok (.aload_n 0, 1) := by decide +kernel
theorem dX2_stopAt_6 : decode cX2_stopAt 6 = .ok (.iload_n 2, 1) := by decide +kernel
theorem dX2_stopAt_7 : decode cX2_stopAt 7 = .ok (.putfield 40, 3) := by decide +kernel
theorem dX2_stopAt_10 : decode cX2_stopAt 10 = .ok (.aload_n 0, 1) := by decide +kernel
theorem dX2_stopAt_11 : decode cX2_stopAt 11 = .ok (.iload_n 3, 1) := by decide +kernel
theorem dX2_stopAt_12 : decode cX2_stopAt 12 = .ok (.putfield 44, 3) := by decide +kernel
theorem dX2_stopAt_15 : decode cX2_stopAt 15 = .ok (.iconst 0, 1) := by decide +kernel
theorem dX2_stopAt_16 : decode cX2_stopAt 16 = .ok (.ireturn, 1) := by decide +kernel
end
section
set_option maxRecDepth 20000 in
theorem ggX7_init_X2_init : GoodIn wsX7_init wsX2_init := goodIn_r _ [32, 33, 2, 3, 34, 35, 36, 37, 38, 39, 40, 41, 42, 43, 44, 45, 46, 47, 48, 49, 15, 16, 28, 29, 50, 51, 52, 53, 54, 55, 56, 57, 58, 59, 60, 61, 62, 63, 64, 65, 66, 67, 68, 69, 70, 71, 72, 73, 74, 75, 76, 77, 78, 79, 80, 81, 82, 83, 84, 85, 86, 87, 88, 89, 90, 91, 92, 93, 94, 95, 96, 97, 98, 99, 100, 101, 102, 121, 122, 123, 124, 125, 126, 127, 128, 129, 130, 131, 145, 146, 147, 148, 149, 150, 151, 152, 153, 141, 142, 136, 137, 138, 139, 140, 143, 144, 154, 155] rfl (by decide +kernel)
set_option maxRecDepth 20000 in
theorem gX7_init_X2_init : GoodIn wsX7_init (wsX2_init) := ggX7_init_X2_init
set_option maxRecDepth 20000 in
theorem ggX7_init_X5_init : GoodIn wsX7_init wsX5_init := goodIn_r _ [104, 105, 2, 3, 106, 28, 29, 107, 108, 109, 66, 67, 68, 69, 70, 71, 72, 54, 73, 143, 144, 132, 133, 134, 135] rfl (by decide +kernel)
set_option maxRecDepth 20000 in
theorem gX7_init_X5_init_n24 : GoodIn wsX7_init (wsX5_init) := ggX7_init_X5_init
set_option maxRecDepth 20000 in
theorem ggX7_init_X6_init : GoodIn wsX7_init wsX6_init := goodIn_r _ [85, 86, 2, 3, 87, 28, 29, 88, 89, 90, 91, 92, 93, 94, 66, 67, 68, 69, 70, 71, 72, 54, 73, 95, 96, 97, 98, 99, 100, 101, 143, 144, 136, 137, 138, 139, 140, 154, 155] rfl (by decide +kernel)
set_option maxRecDepth 20000 in
theorem gX7_init_X6_init : GoodIn wsX7_init (wsX6_init) := ggX7_init_X6_init
set_option maxRecDepth 20000 in
theorem ggX7_init_X3_init : GoodIn wsX7_init wsX3_init := goodIn_r _ [67, 68, 2, 3, 69, 70, 71, 72, 54, 73, 143, 144] rfl (by decide +kernel)
set_option maxRecDepth 20000 in
theorem gX7_init_X3_init : GoodIn wsX7_init (wsX3_init) := ggX7_init_X3_init
theorem dX7_init_0 : decode cX7_init 0 = .ok (.aload_n 0, 1) := by decide +kernel
theorem dX7_init_1 : decode cX7_init 1 = .ok (.invokespecial 1, 3) := by decide +kernel
theorem dX7_init_4 : decode cX7_init 4 = .ok (.aload_n 0, 1) := by decide +kernel
theorem dX7_init_5 : decode cX7_init 5 = .ok (.bipush 8, 2) := by decide +kernel
theorem dX7_init_7 : decode cX7_init 7 = .ok (.anewarray 9, 3) := by decide +kernel
theorem dX7_init_10 : decode cX7_init 10 = .ok (.putfield 11, 3) := by decide +kernel
theorem dX7_init_13 : decode cX7_init 13 = .ok (.aload_n 0, 1) := by decide +kernel
theorem dX7_init_14 : decode cX7_init 14 = .ok (.new 15, 3) := by decide +kernel
theorem dX7_init_17 : decode cX7_init 17 = .ok (.dup, 1) := by decide +kernel
theorem dX7_init_18 : decode cX7_init 18 = .ok (.invokespecial 17, 3) := by decide +kernel
theorem dX7_init_21 : decode cX7_init 21 = .ok (.putfield 18, 3) := by decide +kernel
theorem dX7_init_24 : decode cX7_init 24 = .ok (.aload_n 0, 1) := by decide +kernel
theorem dX7_init_25 : decode cX7_init 25 = .ok (.new 22, 3) := by decide +kernel
theorem dX7_init_28 : decode cX7_init 28 = .ok (.dup, 1) := by decide +kernel
theorem dX7_init_29 : decode cX7_init 29 = .ok (.invokespecial 24, 3) := by decide +kernel
theorem dX7_init_32 : decode cX7_init 32 = .ok (.putfield 25, 3) := by decide +kernel
theorem dX7_init_35 : decode cX7_init 35 = .ok (.aload_n 0, 1) := by decide +kernel
theorem dX7_init_36 : decode cX7_init 36 = .ok (.new 29, 3) := by decide +kernel
theorem dX7_init_39 : decode cX7_init 39 = .ok (.dup, 1) := by decide +kernel
theorem dX7_init_40 : decode cX7_init 40 = .ok (.invokespecial 31, 3) := by decide +kernel
theorem dX7_init_43 : decode cX7_init 43 = .ok (.putfield 32, 3) := by decide +kernel
theorem dX7_init_46 : decode cX7_init 46 = .ok (.aload_n 0, 1) := by decide +kernel
theorem dX7_init_47 : decode cX7_init 47 = .ok (.aload_n 0, 1) := by decide +kernel
theorem dX7_init_48 : decode cX7_init 48 = .ok (.getfield 18, 3) := by decide +kernel
theorem dX7_init_51 : decode cX7_init 51 = .ok (.getfield 36, 3) := by decide +kernel
theorem dX7_init_54 : decode cX7_init 54 = .ok (.putfield 40, 3) := by decide +kernel
theorem dX7_init_57 : decode cX7_init 57 = .ok (.aload_n 0, 1) := by decide +kernel
theorem dX7_init_58 : decode cX7_init 58 = .ok (.aload_n 0, 1) := by decide +kernel
theorem dX7_init_59 : decode cX7_init 59 = .ok (.getfield 18, 3) := by decide +kernel
theorem dX7_init_62 : decode cX7_init 62 = .ok (.getfield 41, 3) := by decide +kernel
theorem dX7_init_65 : decode cX7_init 65 = .ok (.putfield 45, 3) := by decide +kernel
theorem dX7_init_68 : decode cX7_init 68 = .ok (.aload_n 0, 1) := by decide +kernel
theorem dX7_init_69 : decode cX7_init 69 = .ok (.aload_n 0, 1) := by decide +kernel
theorem dX7_init_70 : decode cX7_init 70 = .ok (.getfield 18, 3) := by decide +kernel
theorem dX7_init_73 : decode cX7_init 73 = .ok (.getfield 46, 3) := by decide +kernel
theorem dX7_init_76 : decode cX7_init 76 = .ok (.putfield 50, 3) := by decide +kernel
theorem dX7_init_79 : decode cX7_init 79 = .ok (.aload_n 0, 1) := by decide +kernel
theorem dX7_init_80 : decode cX7_init 80 = .ok (.aload_n 0, 1) := by decide +kernel
theorem dX7_init_81 : decode cX7_init 81 = .ok (.getfield 50, 3) := by decide +kernel
theorem dX7_init_84 : decode cX7_init 84 = .ok (.getfield 51, 3) := by decide +kernel
theorem dX7_init_87 : decode cX7_init 87 = .ok (.putfield 57, 3) := by decide +kernel
theorem dX7_init_90 : decode cX7_init 90 = .ok (.aload_n 0, 1) := by decide +kernel
theorem dX7_init_91 : decode cX7_init 91 = .ok (.aload_n 0, 1) := by decide +kernel
theorem dX7_init_92 : decode cX7_init 92 = .ok (.getfield 25, 3) := by decide +kernel
theorem dX7_init_95 : decode cX7_init 95 = .ok (.getfield 58, 3) := by decide +kernel
theorem dX7_init_98 : decode cX7_init 98 = .ok (.putfield 62, 3) := by decide +kernel
theorem dX7_init_101 : decode cX7_init 101 = .ok (.iconst 0, 1) := by decide +kernel
theorem dX7_init_102 : decode cX7_init 102 = .ok (.istore_n 1, 1) := by decide +kernel
theorem dX7_init_103 : decode cX7_init 103 = .ok (.iload_n 1, 1) := by decide +kernel
theorem dX7_init_104 : decode cX7_init 104 = .ok (.bipush 8, 2) := by decide +kernel
theorem dX7_init_106 : decode cX7_init 106 = .ok (.if_icmp .ge 24, 3) := by decide +kernel
theorem dX7_init_109 : decode cX7_init 109 = .ok (.aload_n 0, 1) := by decide +kernel
theorem dX7_init_110 : decode cX7_init 110 = .ok (.getfield 11, 3) := by decide +kernel
theorem dX7_init_113 : decode cX7_init 113 = .ok (.iload_n 1, 1) := by decide +kernel
theorem dX7_init_114 : decode cX7_init 114 = .ok (.new 9, 3) := by decide +kernel
theorem dX7_init_117 : decode cX7_init 117 = .ok (.dup, 1) := by decide +kernel
theorem dX7_init_118 : decode cX7_init 118 = .ok (.bipush 100, 2) := by decide +kernel
theorem dX7_init_120 : decode cX7_init 120 = .ok (.invokespecial 65, 3) := by decide +kernel
theorem dX7_init_123 : decode cX7_init 123 = .ok (.aastore, 1) := by decide +kernel
theorem dX7_init_124 : decode cX7_init 124 = .ok (.iinc 1 1, 3) := by decide +kernel
theorem dX7_init_127 : decode cX7_init 127 = .ok (.goto (-24), 3) := by decide +kernel
theorem dX7_init_130 : decode cX7_init 130 = .ok (.return_, 1) := by decide +kernel
set_option maxRecDepth 20000 in
theorem ggX7_add_X7_isRegister : GoodIn wsX7_add wsX7_isRegister := goodIn_r _ [5] rfl (by decide +kernel)
set_option maxRecDepth 20000 in
theorem gX7_add_X7_isRegister : GoodIn wsX7_add (va_wsS RX7 68 yX7_isRegister wsX7_isRegister) := goodIn_app (goodIn_of _ (by decide +kernel)) ggX7_add_X7_isRegister
set_option maxRecDepth 20000 in
theorem ggX7_add_X7_isWidth : GoodIn wsX7_add wsX7_isWidth := goodIn_r _ [8] rfl (by decide +kernel)
set_option maxRecDepth 20000 in
theorem gX7_add_X7_isWidth : GoodIn wsX7_add (va_wsS RX7 72 yX7_isWidth wsX7_isWidth) := goodIn_app (goodIn_of _ (by decide +kernel)) ggX7_add_X7_isWidth
set_option maxRecDepth 20000 in
theorem ggX7_add_X7_pushLowest : GoodIn wsX7_add wsX7_pushLowest := goodIn_r _ [11, 12, 13, 14, 15, 16, 17, 18, 19, 20, 21, 22, 23, 33, 34] rfl (by decide +kernel)
set_option maxRecDepth 20000 in
theorem gX7_add_X7_pushLowest : GoodIn wsX7_add (va_wsS RX7 75 yX7_pushLowest wsX7_pushLowest) := goodIn_app (goodIn_of _ (by decide +kernel)) ggX7_add_X7_pushLowest
theorem dX7_add_0 : decode cX7_add 0 = .ok (.iload_n 1, 1) := by decide +kernel
theorem dX7_add_1 : decode cX7_add 1 = .ok (.invokestatic 68, 3) := by decide +kernel
theorem dX7_add_4 : decode cX7_add 4 = .ok (.ifCond .eq 10, 3) := by decide +kernel
theorem dX7_add_7 : decode cX7_add 7 = .ok (.iload_n 2, 1) := by decide +kernel
theorem dX7_add_8 : decode cX7_add 8 = .ok (.invokestatic 72, 3) := by decide +kernel
theorem dX7_add_11 : decode cX7_add 11 = .ok (.ifCond .ne 6, 3) := by decide +kernel
theorem dX7_add_14 : decode cX7_add 14 = .ok (.bipush (-2), 2) := by decide +kernel
theorem dX7_add_16 : decode cX7_add 16 = .ok (.ireturn, 1) := by decide +kernel
theorem dX7_add_17 : decode cX7_add 17 = .ok (.aload_n 0, 1) := by decide +kernel
theorem dX7_add_18 : decode cX7_add 18 = .ok (.getfield 11, 3) := by decide +kernel
theorem dX7_add_21 : decode cX7_add 21 = .ok (.iload_n 1, 1) := by decide +kernel
theorem dX7_add_22 : decode cX7_add 22 = .ok (.aaload, 1) := by decide +kernel
theorem dX7_add_23 : decode cX7_add 23 = .ok (.iload_n 2, 1) := by decide +kernel
theorem dX7_add_24 : decode cX7_add 24 = .ok (.lload_n 3, 1) := by decide +kernel
theorem dX7_add_25 : decode cX7_add 25 = .ok (.invokestatic 75, 3) := by decide +kernel
theorem dX7_add_28 : decode cX7_add 28 = .ok (.ireturn, 1) := by decide +kernel
set_option maxRecDepth 20000 in
theorem ggX7_clear_X7_isRegister : GoodIn wsX7_clear wsX7_isRegister := goodIn_r _ [6] rfl (by decide +kernel)
set_option maxRecDepth 20000 in
theorem gX7_clear_X7_isRegister : GoodIn wsX7_clear (va_wsS RX7 68 yX7_isRegister wsX7_isRegister) := goodIn_app (goodIn_of _ (by decide +kernel)) ggX7_clear_X7_isRegister
set_option maxRecDepth 20000 in
theorem ggX7_clear_X3_makeEmpty : GoodIn wsX7_clear wsX3_makeEmpty := goodIn_r _ [11, 12, 22, 23] rfl (by decide +kernel)
set_option maxRecDepth 20000 in
theorem gX7_clear_X3_makeEmpty : GoodIn wsX7_clear (wsV RX7 83 RX3 yX3_makeEmpty wsX3_makeEmpty) := goodIn_app (goodIn_of _ (by decide +kernel)) ggX7_clear_X3_makeEmpty
theorem dX7_clear_0 : decode cX7_clear 0 = .ok (.iload_n 1, 1) := by decide +kernel
theorem dX7_clear_1 : decode cX7_clear 1 = .ok (.invokestatic 68, 3) := by decide +kernel
theorem dX7_clear_4 : decode cX7_clear 4 = .ok (.ifCond .ne 6, 3) := by decide +kernel
theorem dX7_clear_7 : decode cX7_clear 7 = .ok (.bipush (-2), 2) := by decide +kernel
theorem dX7_clear_9 : decode cX7_clear 9 = .ok (.ireturn, 1) := by decide +kernel
theorem dX7_clear_10 : decode cX7_clear 10 = .ok (.aload_n 0, 1) := by decide +kernel
theorem dX7_clear_11 : decode cX7_clear 11 = .ok (.getfield 11, 3) := by decide +kernel
theorem dX7_clear_14 : decode cX7_clear 14 = .ok (.iload_n 1, 1) := by decide +kernel
theorem dX7_clear_15 : decode cX7_clear 15 = .ok (.aaload, 1) := by decide +kernel
theorem dX7_clear_16 : decode cX7_clear 16 = .ok (.getfield 79, 3) := by decide +kernel
theorem dX7_clear_19 : decode cX7_clear 19 = .ok (.istore_n 2, 1) := by decide +kernel
theorem dX7_clear_20 : decode cX7_clear 20 = .ok (.aload_n 0, 1) := by decide +kernel
theorem dX7_clear_21 : decode cX7_clear 21 = .ok (.getfield 11, 3) := by decide +kernel
theorem dX7_clear_24 : decode cX7_clear 24 = .ok (.iload_n 1, 1) := by decide +kernel
theorem dX7_clear_25 : decode cX7_clear 25 = .ok (.aaload, 1) := by decide +kernel
theorem dX7_clear_26 : decode cX7_clear 26 = .ok (.invokevirtual 83, 3) := by decide +kernel
theorem dX7_clear_29 : decode cX7_clear 29 = .ok (.iload_n 2, 1) := by decide +kernel
theorem dX7_clear_30 : decode cX7_clear 30 = .ok (.ireturn, 1) := by decide +kernel
set_option maxRecDepth 20000 in
theorem ggX7_at_X7_isRegister : GoodIn wsX7_at wsX7_isRegister := goodIn_r _ [5] rfl (by decide +kernel)
set_option maxRecDepth 20000 in
theorem gX7_at_X7_isRegister : GoodIn wsX7_at (va_wsS RX7 68 yX7_isRegister wsX7_isRegister) := goodIn_app (goodIn_of _ (by decide +kernel)) ggX7_at_X7_isRegister
set_option maxRecDepth 20000 in
theorem ggX7_at_X3_byteAt : GoodIn wsX7_at wsX3_byteAt := goodIn_r _ [10, 11, 12, 22, 23] rfl (by decide +kernel)
set_option maxRecDepth 20000 in
theorem gX7_at_X3_byteAt : GoodIn wsX7_at (wsV RX7 86 RX3 yX3_byteAt wsX3_byteAt) := goodIn_app (goodIn_of _ (by decide +kernel)) ggX7_at_X3_byteAt
theorem dX7_at_0 : decode cX7_at 0 = .ok (.iload_n 1, 1) := by decide +kernel
theorem dX7_at_1 : decode cX7_at 1 = .ok (.invokestatic 68, 3) := by decide +kernel
theorem dX7_at_4 : decode cX7_at 4 = .ok (.ifCond .eq 16, 3) := by decide +kernel
theorem dX7_at_7 : decode cX7_at 7 = .ok (.aload_n 0, 1) := by decide +kernel
theorem dX7_at_8 : decode cX7_at 8 = .ok (.getfield 11, 3) := by decide +kernel
theorem dX7_at_11 : decode cX7_at 11 = .ok (.iload_n 1, 1) := by decide +kernel
theorem dX7_at_12 : decode cX7_at 12 = .ok (.aaload, 1) := by decide +kernel
theorem dX7_at_13 : decode cX7_at 13 = .ok (.iload_n 2, 1) := by decide +kernel
theorem dX7_at_14 : decode cX7_at 14 = .ok (.invokevirtual 86, 3) := by decide +kernel
theorem dX7_at_17 : decode cX7_at 17 = .ok (.goto 5, 3) := by decide +kernel
theorem dX7_at_20 : decode cX7_at 20 = .ok (.bipush (-2), 2) := by decide +kernel
theorem dX7_at_22 : decode cX7_at 22 = .ok (.ireturn, 1) := by decide +kernel
set_option maxRecDepth 20000 in
theorem ggX7_hash_X7_isRegister : GoodIn wsX7_hash wsX7_isRegister := goodIn_r _ [7] rfl (by decide +kernel)
set_option maxRecDepth 20000 in
theorem gX7_hash_X7_isRegister : GoodIn wsX7_hash (va_wsS RX7 68 yX7_isRegister wsX7_isRegister) := goodIn_app (goodIn_of _ (by decide +kernel)) ggX7_hash_X7_isRegister
set_option maxRecDepth 20000 in
theorem ggX7_hash_X4_hashInto : GoodIn wsX7_hash wsX4_hashInto := goodIn_r _ [12, 13, 14, 15, 16, 17, 18, 19, 20, 21, 22, 23, 24, 25, 26, 27, 28, 29, 30, 31, 11, 32, 33, 34, 35, 36, 37, 38, 39, 40, 41, 42, 43, 44, 45, 46, 47, 48, 49, 50, 51, 52, 53, 54, 55, 56, 57, 58, 59, 60, 61, 62, 63, 75, 76, 77, 78, 79, 80, 81, 82, 83, 73, 74] rfl (by decide +kernel)
set_option maxRecDepth 20000 in
theorem gX7_hash_X4_hashInto : GoodIn wsX7_hash (wsV RX7 90 RX4 yX4_hashInto wsX4_hashInto) := goodIn_app (goodIn_of _ (by decide +kernel)) ggX7_hash_X4_hashInto
theorem dX7_hash_0 : decode cX7_hash 0 = .ok (.iload_n 1, 1) := by decide +kernel
theorem dX7_hash_1 : decode cX7_hash 1 = .ok (.invokestatic 68, 3) := by decide +kernel
theorem dX7_hash_4 : decode cX7_hash 4 = .ok (.ifCond .eq 10, 3) := by decide +kernel
theorem dX7_hash_7 : decode cX7_hash 7 = .ok (.iload_n 2, 1) := by decide +kernel
theorem dX7_hash_8 : decode cX7_hash 8 = .ok (.invokestatic 68, 3) := by decide +kernel
theorem dX7_hash_11 : decode cX7_hash 11 = .ok (.ifCond .ne 6, 3) := by decide +kernel
theorem dX7_hash_14 : decode cX7_hash 14 = .ok (.bipush (-2), 2) := by decide +kernel
theorem dX7_hash_16 : decode cX7_hash 16 = .ok (.ireturn, 1) := by decide +kernel
theorem dX7_hash_17 : decode cX7_hash 17 = .ok (.aload_n 0, 1) := by decide +kernel
theorem dX7_hash_18 : decode cX7_hash 18 = .ok (.getfield 45, 3) := by decide +kernel
theorem dX7_hash_21 : decode cX7_hash 21 = .ok (.aload_n 0, 1) := by decide +kernel
theorem dX7_hash_22 : decode cX7_hash 22 = .ok (.getfield 11, 3) := by decide +kernel
theorem dX7_hash_25 : decode cX7_hash 25 = .ok (.iload_n 1, 1) := by decide +kernel
theorem dX7_hash_26 : decode cX7_hash 26 = .ok (.aaload, 1) := by decide +kernel
theorem dX7_hash_27 : decode cX7_hash 27 = .ok (.aload_n 0, 1) := by decide +kernel
theorem dX7_hash_28 : decode cX7_hash 28 = .ok (.getfield 11, 3) := by decide +kernel
theorem dX7_hash_31 : decode cX7_hash 31 = .ok (.iload_n 2, 1) := by decide +kernel
theorem dX7_hash_32 : decode cX7_hash 32 = .ok (.aaload, 1) := by decide +kernel
theorem dX7_hash_33 : decode cX7_hash 33 = .ok (.invokevirtual 90, 3) := by decide +kernel
theorem dX7_hash_36 : decode cX7_hash 36 = .ok (.aload_n 0, 1) := by decide +kernel
theorem dX7_hash_37 : decode cX7_hash 37 = .ok (.getfield 11, 3) := by decide +kernel
theorem dX7_hash_40 : decode cX7_hash 40 = .ok (.iload_n 1, 1) := by decide +kernel
theorem dX7_hash_41 : decode cX7_hash 41 = .ok (.aaload, 1) := by decide +kernel
theorem dX7_hash_42 : decode cX7_hash 42 = .ok (.getfield 79, 3) := by decide +kernel
theorem dX7_hash_45 : decode cX7_hash 45 = .ok (.ireturn, 1) := by decide +kernel
set_option maxRecDepth 20000 in
theorem ggX7_seal_X7_isRegister : GoodIn wsX7_seal wsX7_isRegister := goodIn_r _ [7] rfl (by decide +kernel)
set_option maxRecDepth 20000 in
theorem gX7_seal_X7_isRegister : GoodIn wsX7_seal (va_wsS RX7 68 yX7_isRegister wsX7_isRegister) := goodIn_app (goodIn_of _ (by decide +kernel)) ggX7_seal_X7_isRegister
set_option maxRecDepth 20000 in
theorem ggX7_seal_X4_sealInto : GoodIn wsX7_seal wsX4_sealInto := goodIn_r _ [12, 13, 14, 15, 16, 17, 18, 19, 20, 21, 22, 23, 24, 25, 26, 27, 28, 29, 30, 31, 32, 33, 34, 11, 35, 36, 37, 38, 39, 40, 41, 42, 43, 44, 45, 46, 47, 48, 49, 50, 51, 52, 53, 54, 55, 56, 57, 58, 59, 60, 61, 62, 63, 64, 65, 66, 67, 68, 69, 70, 71, 72, 73, 74, 75, 76, 77, 87, 88, 89, 90, 91, 92, 93, 94, 95, 96, 97] rfl (by decide +kernel)
set_option maxRecDepth 20000 in
theorem gX7_seal_X4_sealInto : GoodIn wsX7_seal (wsV RX7 96 RX4 yX4_sealInto wsX4_sealInto) := goodIn_app (goodIn_of _ (by decide +kernel)) ggX7_seal_X4_sealInto
theorem dX7_seal_0 : decode cX7_seal 0 = .ok (.iload_n 1, 1) := by decide +kernel
theorem dX7_seal_1 : decode cX7_seal 1 = .ok (.invokestatic 68, 3) := by decide +kernel
theorem dX7_seal_4 : decode cX7_seal 4 = .ok (.ifCond .eq 17, 3) := by decide +kernel
theorem dX7_seal_7 : decode cX7_seal 7 = .ok (.iload_n 2, 1) := by decide +kernel
theorem dX7_seal_8 : decode cX7_seal 8 = .ok (.invokestatic 68, 3) := by decide +kernel
theorem dX7_seal_11 : decode cX7_seal 11 = .ok (.ifCond .eq 10, 3) := by decide +kernel
theorem dX7_seal_14 : decode cX7_seal 14 = .ok (.iload_n 3, 1) := by decide +kernel
theorem dX7_seal_15 : decode cX7_seal 15 = .ok (.invokestatic 68, 3) := by decide +kernel
theorem dX7_seal_18 : decode cX7_seal 18 = .ok (.ifCond .ne 6, 3) := by decide +kernel
theorem dX7_seal_21 : decode cX7_seal 21 = .ok (.bipush (-2), 2) := by decide +kernel
theorem dX7_seal_23 : decode cX7_seal 23 = .ok (.ireturn, 1) := by decide +kernel
theorem dX7_seal_24 : decode cX7_seal 24 = .ok (.aload_n 0, 1) := by decide +kernel
theorem dX7_seal_25 : decode cX7_seal 25 = .ok (.getfield 45, 3) := by decide +kernel
theorem dX7_seal_28 : decode cX7_seal 28 = .ok (.aload_n 0, 1) := by decide +kernel
theorem dX7_seal_29 : decode cX7_seal 29 = .ok (.getfield 11, 3) := by decide +kernel
theorem dX7_seal_32 : decode cX7_seal 32 = .ok (.iload_n 1, 1) := by decide +kernel
theorem dX7_seal_33 : decode cX7_seal 33 = .ok (.aaload, 1) := by decide +kernel
theorem dX7_seal_34 : decode cX7_seal 34 = .ok (.aload_n 0, 1) := by decide +kernel
theorem dX7_seal_35 : decode cX7_seal 35 = .ok (.getfield 11, 3) := by decide +kernel
theorem dX7_seal_38 : decode cX7_seal 38 = .ok (.iload_n 2, 1) := by decide +kernel
theorem dX7_seal_39 : decode cX7_seal 39 = .ok (.aaload, 1) := by decide +kernel
theorem dX7_seal_40 : decode cX7_seal 40 = .ok (.aload_n 0, 1) := by decide +kernel
theorem dX7_seal_41 : decode cX7_seal 41 = .ok (.getfield 11, 3) := by decide +kernel
theorem dX7_seal_44 : decode cX7_seal 44 = .ok (.iload_n 3, 1) := by decide +kernel
theorem dX7_seal_45 : decode cX7_seal 45 = .ok (.aaload, 1) := by decide +kernel
theorem dX7_seal_46 : decode cX7_seal 46 = .ok (.invokevirtual 96, 3) := by decide +kernel
theorem dX7_seal_49 : decode cX7_seal 49 = .ok (.aload_n 0, 1) := by decide +kernel
theorem dX7_seal_50 : decode cX7_seal 50 = .ok (.getfield 11, 3) := by decide +kernel
theorem dX7_seal_53 : decode cX7_seal 53 = .ok (.iload_n 1, 1) := by decide +kernel
theorem dX7_seal_54 : decode cX7_seal 54 = .ok (.aaload, 1) := by decide +kernel
theorem dX7_seal_55 : decode cX7_seal 55 = .ok (.getfield 79, 3) := by decide +kernel
theorem dX7_seal_58 : decode cX7_seal 58 = .ok (.ireturn, 1) := by decide +kernel
set_option maxRecDepth 20000 in
theorem ggX7_make_X7_isTokenNumber : GoodIn wsX7_make wsX7_isTokenNumber := goodIn_r _ [12] rfl (by decide +kernel)
set_option maxRecDepth 20000 in
theorem gX7_make_X7_isTokenNumber : GoodIn wsX7_make (va_wsS RX7 100 yX7_isTokenNumber wsX7_isTokenNumber) := goodIn_app (goodIn_of _ (by decide +kernel)) ggX7_make_X7_isTokenNumber
set_option maxRecDepth 20000 in
theorem ggX7_make_X7_isRegister : GoodIn wsX7_make wsX7_isRegister := goodIn_r _ [15] rfl (by decide +kernel)
set_option maxRecDepth 20000 in
theorem gX7_make_X7_isRegister : GoodIn wsX7_make (va_wsS RX7 68 yX7_isRegister wsX7_isRegister) := goodIn_app (goodIn_of _ (by decide +kernel)) ggX7_make_X7_isRegister
set_option maxRecDepth 20000 in
theorem ggX7_make_X7_isWordingLength : GoodIn wsX7_make wsX7_isWordingLength := goodIn_r _ [18] rfl (by decide +kernel)
set_option maxRecDepth 20000 in
theorem gX7_make_X7_isWordingLength : GoodIn wsX7_make (va_wsS RX7 103 yX7_isWordingLength wsX7_isWordingLength) := goodIn_app (goodIn_of _ (by decide +kernel)) ggX7_make_X7_isWordingLength
set_option maxRecDepth 20000 in
theorem ggX7_make_X3_takeOver : GoodIn wsX7_make wsX3_takeOver := goodIn_r _ [23, 24, 25, 26, 27, 22, 28, 29, 30, 31, 32, 33, 99, 100] rfl (by decide +kernel)
set_option maxRecDepth 20000 in
theorem gX7_make_X3_takeOver : GoodIn wsX7_make (wsV RX7 116 RX3 yX3_takeOver wsX3_takeOver) := goodIn_app (goodIn_of _ (by decide +kernel)) ggX7_make_X3_takeOver
set_option maxRecDepth 20000 in
theorem ggX7_make_X4_sealInto : GoodIn wsX7_make wsX4_sealInto := goodIn_r _ [38, 39, 40, 41, 42, 43, 20, 21, 22, 23, 24, 25, 26, 27, 28, 29, 30, 31, 32, 33, 44, 45, 46, 37, 47, 48, 49, 50, 51, 52, 53, 54, 55, 56, 57, 58, 59, 60, 61, 62, 63, 64, 65, 66, 67, 68, 69, 70, 71, 72, 73, 74, 75, 76, 77, 78, 79, 80, 81, 82, 83, 84, 85, 86, 87, 88, 89, 99, 100, 106, 107, 108, 109, 110, 111, 112, 113, 114] rfl (by decide +kernel)
set_option maxRecDepth 20000 in
theorem gX7_make_X4_sealInto : GoodIn wsX7_make (wsV RX7 96 RX4 yX4_sealInto wsX4_sealInto) := goodIn_app (goodIn_of _ (by decide +kernel)) ggX7_make_X4_sealInto
theorem dX7_make_0 : decode cX7_make 0 = .ok (.iload_n 1, 1) := by decide +kernel
theorem dX7_make_1 : decode cX7_make 1 = .ok (.invokestatic 100, 3) := by decide +kernel
theorem dX7_make_4 : decode cX7_make 4 = .ok (.ifCond .eq 17, 3) := by decide +kernel
theorem dX7_make_7 : decode cX7_make 7 = .ok (.iload_n 2, 1) := by decide +kernel
theorem dX7_make_8 : decode cX7_make 8 = .ok (.invokestatic 68, 3) := by decide +kernel
theorem dX7_make_11 : decode cX7_make 11 = .ok (.ifCond .eq 10, 3) := by decide +kernel
theorem dX7_make_14 : decode cX7_make 14 = .ok (.iload_n 3, 1) := by decide +kernel
theorem dX7_make_15 : decode cX7_make 15 = .ok (.invokestatic 68, 3) := by decide +kernel
theorem dX7_make_18 : decode cX7_make 18 = .ok (.ifCond .ne 6, 3) := by decide +kernel
theorem dX7_make_21 : decode cX7_make 21 = .ok (.bipush (-2), 2) := by decide +kernel
theorem dX7_make_23 : decode cX7_make 23 = .ok (.ireturn, 1) := by decide +kernel
theorem dX7_make_24 : decode cX7_make 24 = .ok (.aload_n 0, 1) := by decide +kernel
theorem dX7_make_25 : decode cX7_make 25 = .ok (.getfield 11, 3) := by decide +kernel
theorem dX7_make_28 : decode cX7_make 28 = .ok (.iload_n 3, 1) := by decide +kernel
theorem dX7_make_29 : decode cX7_make 29 = .ok (.aaload, 1) := by decide +kernel
theorem dX7_make_30 : decode cX7_make 30 = .ok (.getfield 79, 3) := by decide +kernel
theorem dX7_make_33 : decode cX7_make 33 = .ok (.invokestatic 103, 3) := by decide +kernel
theorem dX7_make_36 : decode cX7_make 36 = .ok (.ifCond .ne 6, 3) := by decide +kernel
theorem dX7_make_39 : decode cX7_make 39 = .ok (.bipush (-3), 2) := by decide +kernel
theorem dX7_make_41 : decode cX7_make 41 = .ok (.ireturn, 1) := by decide +kernel
theorem dX7_make_42 : decode cX7_make 42 = .ok (.aload_n 0, 1) := by decide +kernel
theorem dX7_make_43 : decode cX7_make 43 = .ok (.getfield 40, 3) := by decide +kernel
theorem dX7_make_46 : decode cX7_make 46 = .ok (.iload_n 1, 1) := by decide +kernel
theorem dX7_make_47 : decode cX7_make 47 = .ok (.aaload, 1) := by decide +kernel
theorem dX7_make_48 : decode cX7_make 48 = .ok (.astore 4, 2) := by decide +kernel
theorem dX7_make_50 : decode cX7_make 50 = .ok (.aload 4, 2) := by decide +kernel
theorem dX7_make_52 : decode cX7_make 52 = .ok (.iconst 1, 1) := by decide +kernel
theorem dX7_make_53 : decode cX7_make 53 = .ok (.putfield 106, 3) := by decide +kernel
theorem dX7_make_56 : decode cX7_make 56 = .ok (.aload 4, 2) := by decide +kernel
theorem dX7_make_58 : decode cX7_make 58 = .ok (.iconst 0, 1) := by decide +kernel
theorem dX7_make_59 : decode cX7_make 59 = .ok (.putfield 110, 3) := by decide +kernel
theorem dX7_make_62 : decode cX7_make 62 = .ok (.aload 4, 2) := by decide +kernel
theorem dX7_make_64 : decode cX7_make 64 = .ok (.getfield 113, 3) := by decide +kernel
theorem dX7_make_67 : decode cX7_make 67 = .ok (.aload_n 0, 1) := by decide +kernel
theorem dX7_make_68 : decode cX7_make 68 = .ok (.getfield 11, 3) := by decide +kernel
theorem dX7_make_71 : decode cX7_make 71 = .ok (.iload_n 3, 1) := by decide +kernel
theorem dX7_make_72 : decode cX7_make 72 = .ok (.aaload, 1) := by decide +kernel
theorem dX7_make_73 : decode cX7_make 73 = .ok (.invokevirtual 116, 3) := by decide +kernel
theorem dX7_make_76 : decode cX7_make 76 = .ok (.aload_n 0, 1) := by decide +kernel
theorem dX7_make_77 : decode cX7_make 77 = .ok (.getfield 45, 3) := by decide +kernel
theorem dX7_make_80 : decode cX7_make 80 = .ok (.aload 4, 2) := by decide +kernel
theorem dX7_make_82 : decode cX7_make 82 = .ok (.getfield 120, 3) := by decide +kernel
theorem dX7_make_85 : decode cX7_make 85 = .ok (.aload_n 0, 1) := by decide +kernel
theorem dX7_make_86 : decode cX7_make 86 = .ok (.getfield 11, 3) := by decide +kernel
theorem dX7_make_89 : decode cX7_make 89 = .ok (.iload_n 2, 1) := by decide +kernel
theorem dX7_make_90 : decode cX7_make 90 = .ok (.aaload, 1) := by decide +kernel
theorem dX7_make_91 : decode cX7_make 91 = .ok (.aload 4, 2) := by decide +kernel
theorem dX7_make_93 : decode cX7_make 93 = .ok (.getfield 113, 3) := by decide +kernel
theorem dX7_make_96 : decode cX7_make 96 = .ok (.invokevirtual 96, 3) := by decide +kernel
theorem dX7_make_99 : decode cX7_make 99 = .ok (.iconst 0, 1) := by decide +kernel
theorem dX7_make_100 : decode cX7_make 100 = .ok (.ireturn, 1) := by decide +kernel
set_option maxRecDepth 20000 in
theorem ggX7_limit_X7_isThere : GoodIn wsX7_limit wsX7_isThere := goodIn_r _ [14, 1, 15, 16, 17, 13, 18, 108, 109, 110, 111, 112, 113, 114, 115, 116, 119, 120, 121, 122, 123] rfl (by decide +kernel)
set_option maxRecDepth 20000 in
theorem gX7_limit_X7_isThere : GoodIn wsX7_limit (wsV RX7 123 RX7 yX7_isThere wsX7_isThere) := goodIn_app (goodIn_of _ (by decide +kernel)) ggX7_limit_X7_isThere
set_option maxRecDepth 20000 in
theorem ggX7_limit_X7_isRegister : GoodIn wsX7_limit wsX7_isRegister := goodIn_r _ [21] rfl (by decide +kernel)
set_option maxRecDepth 20000 in
theorem gX7_limit_X7_isRegister : GoodIn wsX7_limit (va_wsS RX7 68 yX7_isRegister wsX7_isRegister) := goodIn_app (goodIn_of _ (by decide +kernel)) ggX7_limit_X7_isRegister
set_option maxRecDepth 20000 in
theorem ggX7_limit_X7_isWordingLength : GoodIn wsX7_limit wsX7_isWordingLength := goodIn_r _ [24] rfl (by decide +kernel)
set_option maxRecDepth 20000 in
theorem gX7_limit_X7_isWordingLength : GoodIn wsX7_limit (va_wsS RX7 103 yX7_isWordingLength wsX7_isWordingLength) := goodIn_app (goodIn_of _ (by decide +kernel)) ggX7_limit_X7_isWordingLength
set_option maxRecDepth 20000 in
theorem ggX7_limit_X6_isFull : GoodIn wsX7_limit wsX6_isFull := goodIn_r _ [29, 30, 119, 120, 121, 122, 123] rfl (by decide +kernel)
set_option maxRecDepth 20000 in
theorem gX7_limit_X6_isFull : GoodIn wsX7_limit (wsV RX7 126 RX6 yX6_isFull wsX6_isFull) := goodIn_app (goodIn_of _ (by decide +kernel)) ggX7_limit_X6_isFull
set_option maxRecDepth 20000 in
theorem ggX7_limit_X3_takeOver : GoodIn wsX7_limit wsX3_takeOver := goodIn_r _ [35, 36, 37, 38, 39, 34, 40, 41, 42, 43, 44, 45, 117, 118] rfl (by decide +kernel)
set_option maxRecDepth 20000 in
theorem gX7_limit_X3_takeOver : GoodIn wsX7_limit (wsV RX7 116 RX3 yX3_takeOver wsX3_takeOver) := goodIn_app (goodIn_of _ (by decide +kernel)) ggX7_limit_X3_takeOver
set_option maxRecDepth 20000 in
theorem ggX7_limit_X3_makeEmpty : GoodIn wsX7_limit wsX3_makeEmpty := goodIn_r _ [49, 36, 117, 118] rfl (by decide +kernel)
set_option maxRecDepth 20000 in
theorem gX7_limit_X3_makeEmpty : GoodIn wsX7_limit (wsV RX7 83 RX3 yX3_makeEmpty wsX3_makeEmpty) := goodIn_app (goodIn_of _ (by decide +kernel)) ggX7_limit_X3_makeEmpty
set_option maxRecDepth 20000 in
theorem ggX7_limit_X4_goOnOwn : GoodIn wsX7_limit wsX4_goOnOwn := goodIn_r _ [54, 55, 56, 57, 58, 53, 59, 60, 61, 62, 63, 64, 32, 33, 34, 35, 36, 37, 38, 39, 40, 41, 42, 43, 44, 45, 65, 66, 67, 68, 69, 70, 71, 72, 73, 74, 75, 76, 77, 78, 79, 80, 81, 82, 83, 84, 85, 86, 87, 88, 89, 90, 91, 92, 93, 94, 95, 47, 48, 49, 96, 97, 98, 99, 100, 101, 102, 103, 104, 105, 106, 107, 124, 125, 117, 118, 126, 127, 128, 129, 130, 131, 132, 133, 134] rfl (by decide +kernel)
set_option maxRecDepth 20000 in
theorem gX7_limit_X4_goOnOwn : GoodIn wsX7_limit (wsV RX7 142 RX4 yX4_goOnOwn wsX4_goOnOwn) := goodIn_app (goodIn_of _ (by decide +kernel)) ggX7_limit_X4_goOnOwn
theorem dX7_limit_0 : decode cX7_limit 0 = .ok (.aload_n 0, 1) := by decide +kernel
theorem dX7_limit_1 : decode cX7_limit 1 = .ok (.iload_n 1, 1) := by decide +kernel
theorem dX7_limit_2 : decode cX7_limit 2 = .ok (.invokevirtual 123, 3) := by decide +kernel
theorem dX7_limit_5 : decode cX7_limit 5 = .ok (.ifCond .eq 10, 3) := by decide +kernel
theorem dX7_limit_8 : decode cX7_limit 8 = .ok (.iload_n 2, 1) := by decide +kernel
theorem dX7_limit_9 : decode cX7_limit 9 = .ok (.invokestatic 68, 3) := by decide +kernel
theorem dX7_limit_12 : decode cX7_limit 12 = .ok (.ifCond .ne 6, 3) := by decide +kernel
theorem dX7_limit_15 : decode cX7_limit 15 = .ok (.bipush (-2), 2) := by decide +kernel
theorem dX7_limit_17 : decode cX7_limit 17 = .ok (.ireturn, 1) := by decide +kernel
theorem dX7_limit_18 : decode cX7_limit 18 = .ok (.aload_n 0, 1) := by decide +kernel
theorem dX7_limit_19 : decode cX7_limit 19 = .ok (.getfield 40, 3) := by decide +kernel
theorem dX7_limit_22 : decode cX7_limit 22 = .ok (.iload_n 1, 1) := by decide +kernel
theorem dX7_limit_23 : decode cX7_limit 23 = .ok (.aaload, 1) := by decide +kernel
theorem dX7_limit_24 : decode cX7_limit 24 = .ok (.astore_n 3, 1) := by decide +kernel
theorem dX7_limit_25 : decode cX7_limit 25 = .ok (.aload_n 0, 1) := by decide +kernel
theorem dX7_limit_26 : decode cX7_limit 26 = .ok (.getfield 11, 3) := by decide +kernel
theorem dX7_limit_29 : decode cX7_limit 29 = .ok (.iload_n 2, 1) := by decide +kernel
theorem dX7_limit_30 : decode cX7_limit 30 = .ok (.aaload, 1) := by decide +kernel
theorem dX7_limit_31 : decode cX7_limit 31 = .ok (.getfield 79, 3) := by decide +kernel
theorem dX7_limit_34 : decode cX7_limit 34 = .ok (.invokestatic 103, 3) := by decide +kernel
theorem dX7_limit_37 : decode cX7_limit 37 = .ok (.ifCond .eq 10, 3) := by decide +kernel
theorem dX7_limit_40 : decode cX7_limit 40 = .ok (.aload_n 3, 1) := by decide +kernel
theorem dX7_limit_41 : decode cX7_limit 41 = .ok (.invokevirtual 126, 3) := by decide +kernel
theorem dX7_limit_44 : decode cX7_limit 44 = .ok (.ifCond .eq 6, 3) := by decide +kernel
theorem dX7_limit_47 : decode cX7_limit 47 = .ok (.bipush (-3), 2) := by decide +kernel
theorem dX7_limit_49 : decode cX7_limit 49 = .ok (.ireturn, 1) := by decide +kernel
theorem dX7_limit_50 : decode cX7_limit 50 = .ok (.aload_n 3, 1) := by decide +kernel
theorem dX7_limit_51 : decode cX7_limit 51 = .ok (.getfield 130, 3) := by decide +kernel
theorem dX7_limit_54 : decode cX7_limit 54 = .ok (.aload_n 3, 1) := by decide +kernel
theorem dX7_limit_55 : decode cX7_limit 55 = .ok (.getfield 110, 3) := by decide +kernel
theorem dX7_limit_58 : decode cX7_limit 58 = .ok (.aaload, 1) := by decide +kernel
theorem dX7_limit_59 : decode cX7_limit 59 = .ok (.astore 4, 2) := by decide +kernel
theorem dX7_limit_61 : decode cX7_limit 61 = .ok (.aload 4, 2) := by decide +kernel
theorem dX7_limit_63 : decode cX7_limit 63 = .ok (.getfield 134, 3) := by decide +kernel
theorem dX7_limit_66 : decode cX7_limit 66 = .ok (.aload_n 0, 1) := by decide +kernel
theorem dX7_limit_67 : decode cX7_limit 67 = .ok (.getfield 11, 3) := by decide +kernel
theorem dX7_limit_70 : decode cX7_limit 70 = .ok (.iload_n 2, 1) := by decide +kernel
theorem dX7_limit_71 : decode cX7_limit 71 = .ok (.aaload, 1) := by decide +kernel
theorem dX7_limit_72 : decode cX7_limit 72 = .ok (.invokevirtual 116, 3) := by decide +kernel
theorem dX7_limit_75 : decode cX7_limit 75 = .ok (.aload 4, 2) := by decide +kernel
theorem dX7_limit_77 : decode cX7_limit 77 = .ok (.getfield 139, 3) := by decide +kernel
theorem dX7_limit_80 : decode cX7_limit 80 = .ok (.invokevirtual 83, 3) := by decide +kernel
theorem dX7_limit_83 : decode cX7_limit 83 = .ok (.aload_n 0, 1) := by decide +kernel
theorem dX7_limit_84 : decode cX7_limit 84 = .ok (.getfield 45, 3) := by decide +kernel
theorem dX7_limit_87 : decode cX7_limit 87 = .ok (.aload_n 3, 1) := by decide +kernel
theorem dX7_limit_88 : decode cX7_limit 88 = .ok (.getfield 120, 3) := by decide +kernel
theorem dX7_limit_91 : decode cX7_limit 91 = .ok (.aload 4, 2) := by decide +kernel
theorem dX7_limit_93 : decode cX7_limit 93 = .ok (.invokevirtual 142, 3) := by decide +kernel
theorem dX7_limit_96 : decode cX7_limit 96 = .ok (.aload_n 3, 1) := by decide +kernel
theorem dX7_limit_97 : decode cX7_limit 97 = .ok (.dup, 1) := by decide +kernel
theorem dX7_limit_98 : decode cX7_limit 98 = .ok (.getfield 110, 3) := by decide +kernel
theorem dX7_limit_101 : decode cX7_limit 101 = .ok (.iconst 1, 1) := by decide +kernel
theorem dX7_limit_102 : decode cX7_limit 102 = .ok (.iadd, 1) := by decide +kernel
theorem dX7_limit_103 : decode cX7_limit 103 = .ok (.putfield 110, 3) := by decide +kernel
theorem dX7_limit_106 : decode cX7_limit 106 = .ok (.aload_n 3, 1) := by decide +kernel
theorem dX7_limit_107 : decode cX7_limit 107 = .ok (.getfield 110, 3) := by decide +kernel
theorem dX7_limit_110 : decode cX7_limit 110 = .ok (.ireturn, 1) := by decide +kernel
set_option maxRecDepth 20000 in
theorem ggX7_others_X7_isThere : GoodIn wsX7_others wsX7_isThere := goodIn_r _ [14, 1, 15, 16, 17, 13, 18, 123, 124, 125, 126, 127, 128, 129, 130, 131, 134, 135, 136, 137, 138] rfl (by decide +kernel)
set_option maxRecDepth 20000 in
theorem gX7_others_X7_isThere : GoodIn wsX7_others (wsV RX7 123 RX7 yX7_isThere wsX7_isThere) := goodIn_app (goodIn_of _ (by decide +kernel)) ggX7_others_X7_isThere
set_option maxRecDepth 20000 in
theorem ggX7_others_X7_isRegister : GoodIn wsX7_others wsX7_isRegister := goodIn_r _ [21] rfl (by decide +kernel)
set_option maxRecDepth 20000 in
theorem gX7_others_X7_isRegister : GoodIn wsX7_others (va_wsS RX7 68 yX7_isRegister wsX7_isRegister) := goodIn_app (goodIn_of _ (by decide +kernel)) ggX7_others_X7_isRegister
set_option maxRecDepth 20000 in
theorem ggX7_others_X7_isWordingLength : GoodIn wsX7_others wsX7_isWordingLength := goodIn_r _ [24] rfl (by decide +kernel)
set_option maxRecDepth 20000 in
theorem gX7_others_X7_isWordingLength : GoodIn wsX7_others (va_wsS RX7 103 yX7_isWordingLength wsX7_isWordingLength) := goodIn_app (goodIn_of _ (by decide +kernel)) ggX7_others_X7_isWordingLength
set_option maxRecDepth 20000 in
theorem ggX7_others_X6_isFull : GoodIn wsX7_others wsX6_isFull := goodIn_r _ [29, 30, 134, 135, 136, 137, 138] rfl (by decide +kernel)
set_option maxRecDepth 20000 in
theorem gX7_others_X6_isFull : GoodIn wsX7_others (wsV RX7 126 RX6 yX6_isFull wsX6_isFull) := goodIn_app (goodIn_of _ (by decide +kernel)) ggX7_others_X6_isFull
set_option maxRecDepth 20000 in
theorem ggX7_others_X3_takeOver : GoodIn wsX7_others wsX3_takeOver := goodIn_r _ [35, 36, 37, 38, 39, 34, 40, 41, 42, 43, 44, 45, 132, 133] rfl (by decide +kernel)
set_option maxRecDepth 20000 in
theorem gX7_others_X3_takeOver : GoodIn wsX7_others (wsV RX7 116 RX3 yX3_takeOver wsX3_takeOver) := goodIn_app (goodIn_of _ (by decide +kernel)) ggX7_others_X3_takeOver
set_option maxRecDepth 20000 in
theorem ggX7_others_X4_turnKey : GoodIn wsX7_others wsX4_turnKey := goodIn_r _ [50, 51, 52, 53, 54, 49, 55, 56, 57, 58, 59, 60, 32, 33, 34, 35, 36, 37, 38, 39, 40, 41, 42, 43, 44, 45, 61, 62, 63, 64, 65, 66, 67, 68, 69, 70, 71, 72, 73, 74, 75, 76, 77, 78, 79, 80, 81, 82, 83, 84, 85, 86, 87, 88, 89, 90, 91, 92, 93, 94, 95, 96, 97, 98, 99, 100, 101, 102, 103, 104, 105, 106, 107, 108, 109, 110, 111, 112, 113, 114, 141, 142, 143, 144, 145, 146, 147, 148, 149, 132, 133] rfl (by decide +kernel)
set_option maxRecDepth 20000 in
theorem gX7_others_X4_turnKey : GoodIn wsX7_others (wsV RX7 146 RX4 yX4_turnKey wsX4_turnKey) := goodIn_app (goodIn_of _ (by decide +kernel)) ggX7_others_X4_turnKey
set_option maxRecDepth 20000 in
theorem ggX7_others_X4_goOnOthers : GoodIn wsX7_others wsX4_goOnOthers := goodIn_r _ [118, 119, 120, 51, 121, 122, 52, 53, 54, 49, 55, 56, 57, 58, 59, 60, 32, 33, 34, 35, 36, 37, 38, 39, 40, 41, 42, 43, 44, 45, 61, 62, 63, 64, 65, 66, 67, 68, 69, 70, 71, 72, 73, 74, 75, 76, 77, 78, 79, 80, 81, 82, 83, 84, 85, 86, 87, 88, 89, 90, 91, 92, 93, 94, 95, 96, 97, 98, 99, 100, 101, 102, 103, 104, 105, 106, 141, 142, 143, 144, 145, 146, 147, 148, 149, 139, 140, 132, 133] rfl (by decide +kernel)
set_option maxRecDepth 20000 in
theorem gX7_others_X4_goOnOthers : GoodIn wsX7_others (wsV RX7 150 RX4 yX4_goOnOthers wsX4_goOnOthers) := goodIn_app (goodIn_of _ (by decide +kernel)) ggX7_others_X4_goOnOthers
theorem dX7_others_0 : decode cX7_others 0 = .ok (.aload_n 0, 1) := by decide +kernel
theorem dX7_others_1 : decode cX7_others 1 = .ok (.iload_n 1, 1) := by decide +kernel
theorem dX7_others_2 : decode cX7_others 2 = .ok (.invokevirtual 123, 3) := by decide +kernel
theorem dX7_others_5 : decode cX7_others 5 = .ok (.ifCond .eq 17, 3) := by decide +kernel
theorem dX7_others_8 : decode cX7_others 8 = .ok (.iload_n 2, 1) := by decide +kernel
theorem dX7_others_9 : decode cX7_others 9 = .ok (.invokestatic 68, 3) := by decide +kernel
theorem dX7_others_12 : decode cX7_others 12 = .ok (.ifCond .eq 10, 3) := by decide +kernel
theorem dX7_others_15 : decode cX7_others 15 = .ok (.iload_n 3, 1) := by decide +kernel
theorem dX7_others_16 : decode cX7_others 16 = .ok (.invokestatic 68, 3) := by decide +kernel
theorem dX7_others_19 : decode cX7_others 19 = .ok (.ifCond .ne 6, 3) := by decide +kernel
theorem dX7_others_22 : decode cX7_others 22 = .ok (.bipush (-2), 2) := by decide +kernel
theorem dX7_others_24 : decode cX7_others 24 = .ok (.ireturn, 1) := by decide +kernel
theorem dX7_others_25 : decode cX7_others 25 = .ok (.aload_n 0, 1) := by decide +kernel
theorem dX7_others_26 : decode cX7_others 26 = .ok (.getfield 40, 3) := by decide +kernel
theorem dX7_others_29 : decode cX7_others 29 = .ok (.iload_n 1, 1) := by decide +kernel
theorem dX7_others_30 : decode cX7_others 30 = .ok (.aaload, 1) := by decide +kernel
theorem dX7_others_31 : decode cX7_others 31 = .ok (.astore 4, 2) := by decide +kernel
theorem dX7_others_33 : decode cX7_others 33 = .ok (.aload_n 0, 1) := by decide +kernel
theorem dX7_others_34 : decode cX7_others 34 = .ok (.getfield 11, 3) := by decide +kernel
theorem dX7_others_37 : decode cX7_others 37 = .ok (.iload_n 3, 1) := by decide +kernel
theorem dX7_others_38 : decode cX7_others 38 = .ok (.aaload, 1) := by decide +kernel
theorem dX7_others_39 : decode cX7_others 39 = .ok (.getfield 79, 3) := by decide +kernel
theorem dX7_others_42 : decode cX7_others 42 = .ok (.invokestatic 103, 3) := by decide +kernel
theorem dX7_others_45 : decode cX7_others 45 = .ok (.ifCond .eq 25, 3) := by decide +kernel
theorem dX7_others_48 : decode cX7_others 48 = .ok (.aload 4, 2) := by decide +kernel
theorem dX7_others_50 : decode cX7_others 50 = .ok (.invokevirtual 126, 3) := by decide +kernel
theorem dX7_others_53 : decode cX7_others 53 = .ok (.ifCond .ne 17, 3) := by decide +kernel
theorem dX7_others_56 : decode cX7_others 56 = .ok (.aload_n 0, 1) := by decide +kernel
theorem dX7_others_57 : decode cX7_others 57 = .ok (.getfield 11, 3) := by decide +kernel
theorem dX7_others_60 : decode cX7_others 60 = .ok (.iload_n 2, 1) := by decide +kernel
theorem dX7_others_61 : decode cX7_others 61 = .ok (.aaload, 1) := by decide +kernel
theorem dX7_others_62 : decode cX7_others 62 = .ok (.getfield 79, 3) := by decide +kernel
theorem dX7_others_65 : decode cX7_others 65 = .ok (.bipush 32, 2) := by decide +kernel
theorem dX7_others_67 : decode cX7_others 67 = .ok (.if_icmp .eq 6, 3) := by decide +kernel
theorem dX7_others_70 : decode cX7_others 70 = .ok (.bipush (-3), 2) := by decide +kernel
theorem dX7_others_72 : decode cX7_others 72 = .ok (.ireturn, 1) := by decide +kernel
theorem dX7_others_73 : decode cX7_others 73 = .ok (.aload 4, 2) := by decide +kernel
theorem dX7_others_75 : decode cX7_others 75 = .ok (.getfield 130, 3) := by decide +kernel
theorem dX7_others_78 : decode cX7_others 78 = .ok (.aload 4, 2) := by decide +kernel
theorem dX7_others_80 : decode cX7_others 80 = .ok (.getfield 110, 3) := by decide +kernel
theorem dX7_others_83 : decode cX7_others 83 = .ok (.aaload, 1) := by decide +kernel
theorem dX7_others_84 : decode cX7_others 84 = .ok (.astore 5, 2) := by decide +kernel
theorem dX7_others_86 : decode cX7_others 86 = .ok (.aload 5, 2) := by decide +kernel
theorem dX7_others_88 : decode cX7_others 88 = .ok (.getfield 134, 3) := by decide +kernel
theorem dX7_others_91 : decode cX7_others 91 = .ok (.aload_n 0, 1) := by decide +kernel
theorem dX7_others_92 : decode cX7_others 92 = .ok (.getfield 11, 3) := by decide +kernel
theorem dX7_others_95 : decode cX7_others 95 = .ok (.iload_n 3, 1) := by decide +kernel
theorem dX7_others_96 : decode cX7_others 96 = .ok (.aaload, 1) := by decide +kernel
theorem dX7_others_97 : decode cX7_others 97 = .ok (.invokevirtual 116, 3) := by decide +kernel
theorem dX7_others_100 : decode cX7_others 100 = .ok (.aload_n 0, 1) := by decide +kernel
theorem dX7_others_101 : decode cX7_others 101 = .ok (.getfield 45, 3) := by decide +kernel
theorem dX7_others_104 : decode cX7_others 104 = .ok (.aload 5, 2) := by decide +kernel
theorem dX7_others_106 : decode cX7_others 106 = .ok (.getfield 139, 3) := by decide +kernel
theorem dX7_others_109 : decode cX7_others 109 = .ok (.aload_n 0, 1) := by decide +kernel
theorem dX7_others_110 : decode cX7_others 110 = .ok (.getfield 11, 3) := by decide +kernel
theorem dX7_others_113 : decode cX7_others 113 = .ok (.iload_n 2, 1) := by decide +kernel
theorem dX7_others_114 : decode cX7_others 114 = .ok (.aaload, 1) := by decide +kernel
theorem dX7_others_115 : decode cX7_others 115 = .ok (.aload 4, 2) := by decide +kernel
theorem dX7_others_117 : decode cX7_others 117 = .ok (.getfield 120, 3) := by decide +kernel
theorem dX7_others_120 : decode cX7_others 120 = .ok (.aload 5, 2) := by decide +kernel
theorem dX7_others_122 : decode cX7_others 122 = .ok (.getfield 134, 3) := by decide +kernel
theorem dX7_others_125 : decode cX7_others 125 = .ok (.invokevirtual 146, 3) := by decide +kernel
theorem dX7_others_128 : decode cX7_others 128 = .ok (.aload_n 0, 1) := by decide +kernel
theorem dX7_others_129 : decode cX7_others 129 = .ok (.getfield 45, 3) := by decide +kernel
theorem dX7_others_132 : decode cX7_others 132 = .ok (.aload 4, 2) := by decide +kernel
theorem dX7_others_134 : decode cX7_others 134 = .ok (.getfield 120, 3) := by decide +kernel
theorem dX7_others_137 : decode cX7_others 137 = .ok (.aload 5, 2) := by decide +kernel
theorem dX7_others_139 : decode cX7_others 139 = .ok (.invokevirtual 150, 3) := by decide +kernel
theorem dX7_others_142 : decode cX7_others 142 = .ok (.aload 4, 2) := by decide +kernel
theorem dX7_others_144 : decode cX7_others 144 = .ok (.dup, 1) := by decide +kernel
theorem dX7_others_145 : decode cX7_others 145 = .ok (.getfield 110, 3) := by decide +kernel
theorem dX7_others_148 : decode cX7_others 148 = .ok (.iconst 1, 1) := by decide +kernel
theorem dX7_others_149 : decode cX7_others 149 = .ok (.iadd, 1) := by decide +kernel
theorem dX7_others_150 : decode cX7_others 150 = .ok (.putfield 110, 3) := by decide +kernel
theorem dX7_others_153 : decode cX7_others 153 = .ok (.aload 4, 2) := by decide +kernel
theorem dX7_others_155 : decode cX7_others 155 = .ok (.getfield 110, 3) := by decide +kernel
theorem dX7_others_158 : decode cX7_others 158 = .ok (.ireturn, 1) := by decide +kernel
set_option maxRecDepth 20000 in
theorem ggX7_bind_X7_isThere : GoodIn wsX7_bind wsX7_isThere := goodIn_r _ [8, 2, 9, 10, 11, 7, 12, 89, 90, 91, 92, 93, 94, 95, 96, 97, 98, 99, 100, 101, 102] rfl (by decide +kernel)
set_option maxRecDepth 20000 in
theorem gX7_bind_X7_isThere : GoodIn wsX7_bind (wsV RX7 123 RX7 yX7_isThere wsX7_isThere) := goodIn_app (goodIn_of _ (by decide +kernel)) ggX7_bind_X7_isThere
set_option maxRecDepth 20000 in
theorem ggX7_bind_X4_bindSign : GoodIn wsX7_bind wsX4_bindSign := goodIn_r _ [17, 18, 19, 20, 21, 22, 23, 24, 25, 26, 27, 28, 29, 30, 31, 32, 33, 34, 35, 36, 37, 38, 39, 40, 41, 16, 42, 43, 44, 45, 46, 47, 48, 49, 50, 51, 52, 53, 54, 55, 56, 57, 58, 59, 60, 61, 62, 63, 64, 65, 66, 67, 68, 69, 70, 71, 72, 73, 74, 75, 76, 77, 78, 79, 80, 81, 82, 83, 84, 85, 86, 87, 88, 103, 104, 105, 106, 107, 108, 109, 110, 111, 112, 113] rfl (by decide +kernel)
set_option maxRecDepth 20000 in
theorem gX7_bind_X4_bindSign : GoodIn wsX7_bind (wsV RX7 153 RX4 yX4_bindSign wsX4_bindSign) := goodIn_app (goodIn_of _ (by decide +kernel)) ggX7_bind_X4_bindSign
theorem dX7_bind_0 : decode cX7_bind 0 = .ok (.aload_n 0, 1) := by decide +kernel
theorem dX7_bind_1 : decode cX7_bind 1 = .ok (.iload_n 1, 1) := by decide +kernel
theorem dX7_bind_2 : decode cX7_bind 2 = .ok (.invokevirtual 123, 3) := by decide +kernel
theorem dX7_bind_5 : decode cX7_bind 5 = .ok (.ifCond .eq 11, 3) := by decide +kernel
theorem dX7_bind_8 : decode cX7_bind 8 = .ok (.aload_n 0, 1) := by decide +kernel
theorem dX7_bind_9 : decode cX7_bind 9 = .ok (.iload_n 2, 1) := by decide +kernel
theorem dX7_bind_10 : decode cX7_bind 10 = .ok (.invokevirtual 123, 3) := by decide +kernel
theorem dX7_bind_13 : decode cX7_bind 13 = .ok (.ifCond .ne 6, 3) := by decide +kernel
theorem dX7_bind_16 : decode cX7_bind 16 = .ok (.bipush (-2), 2) := by decide +kernel
theorem dX7_bind_18 : decode cX7_bind 18 = .ok (.ireturn, 1) := by decide +kernel
theorem dX7_bind_19 : decode cX7_bind 19 = .ok (.aload_n 0, 1) := by decide +kernel
theorem dX7_bind_20 : decode cX7_bind 20 = .ok (.getfield 45, 3) := by decide +kernel
theorem dX7_bind_23 : decode cX7_bind 23 = .ok (.aload_n 0, 1) := by decide +kernel
theorem dX7_bind_24 : decode cX7_bind 24 = .ok (.getfield 40, 3) := by decide +kernel
theorem dX7_bind_27 : decode cX7_bind 27 = .ok (.iload_n 1, 1) := by decide +kernel
theorem dX7_bind_28 : decode cX7_bind 28 = .ok (.aaload, 1) := by decide +kernel
theorem dX7_bind_29 : decode cX7_bind 29 = .ok (.getfield 120, 3) := by decide +kernel
theorem dX7_bind_32 : decode cX7_bind 32 = .ok (.aload_n 0, 1) := by decide +kernel
theorem dX7_bind_33 : decode cX7_bind 33 = .ok (.getfield 40, 3) := by decide +kernel
theorem dX7_bind_36 : decode cX7_bind 36 = .ok (.iload_n 2, 1) := by decide +kernel
theorem dX7_bind_37 : decode cX7_bind 37 = .ok (.aaload, 1) := by decide +kernel
theorem dX7_bind_38 : decode cX7_bind 38 = .ok (.getfield 120, 3) := by decide +kernel
theorem dX7_bind_41 : decode cX7_bind 41 = .ok (.invokevirtual 153, 3) := by decide +kernel
theorem dX7_bind_44 : decode cX7_bind 44 = .ok (.iconst 0, 1) := by decide +kernel
theorem dX7_bind_45 : decode cX7_bind 45 = .ok (.ireturn, 1) := by decide +kernel
set_option maxRecDepth 20000 in
theorem ggX7_copy_X7_isThere : GoodIn wsX7_copy wsX7_isThere := goodIn_r _ [7, 1, 8, 9, 10, 6, 11, 45, 46, 47, 48, 49, 50, 51, 52, 53, 54, 55, 56, 57, 58] rfl (by decide +kernel)
set_option maxRecDepth 20000 in
theorem gX7_copy_X7_isThere : GoodIn wsX7_copy (wsV RX7 123 RX7 yX7_isThere wsX7_isThere) := goodIn_app (goodIn_of _ (by decide +kernel)) ggX7_copy_X7_isThere
set_option maxRecDepth 20000 in
theorem ggX7_copy_X7_isTokenNumber : GoodIn wsX7_copy wsX7_isTokenNumber := goodIn_r _ [11] rfl (by decide +kernel)
end
section
set_option maxRecDepth 20000 in
theorem gX7_copy_X7_isTokenNumber : GoodIn wsX7_copy (va_wsS RX7 100 yX7_isTokenNumber wsX7_isTokenNumber) := goodIn_app (goodIn_of _ (by decide +kernel)) ggX7_copy_X7_isTokenNumber
set_option maxRecDepth 20000 in
theorem ggX7_copy_X6_takeOver : GoodIn wsX7_copy wsX6_takeOver := goodIn_r _ [16, 17, 18, 19, 20, 21, 22, 23, 24, 25, 26, 27, 28, 29, 30, 31, 32, 33, 34, 35, 36, 37, 38, 39, 40, 41, 42, 43, 44, 54, 55, 56, 57, 58, 59, 60, 61, 62] rfl (by decide +kernel)
set_option maxRecDepth 20000 in
theorem gX7_copy_X6_takeOver : GoodIn wsX7_copy (wsV RX7 156 RX6 yX6_takeOver wsX6_takeOver) := goodIn_app (goodIn_of _ (by decide +kernel)) ggX7_copy_X6_takeOver
theorem dX7_copy_0 : decode cX7_copy 0 = .ok (.aload_n 0, 1) := by decide +kernel
theorem dX7_copy_1 : decode cX7_copy 1 = .ok (.iload_n 1, 1) := by decide +kernel
theorem dX7_copy_2 : decode cX7_copy 2 = .ok (.invokevirtual 123, 3) := by decide +kernel
theorem dX7_copy_5 : decode cX7_copy 5 = .ok (.ifCond .eq 10, 3) := by decide +kernel
theorem dX7_copy_8 : decode cX7_copy 8 = .ok (.iload_n 2, 1) := by decide +kernel
theorem dX7_copy_9 : decode cX7_copy 9 = .ok (.invokestatic 100, 3) := by decide +kernel
theorem dX7_copy_12 : decode cX7_copy 12 = .ok (.ifCond .ne 6, 3) := by decide +kernel
theorem dX7_copy_15 : decode cX7_copy 15 = .ok (.bipush (-2), 2) := by decide +kernel
theorem dX7_copy_17 : decode cX7_copy 17 = .ok (.ireturn, 1) := by decide +kernel
theorem dX7_copy_18 : decode cX7_copy 18 = .ok (.aload_n 0, 1) := by decide +kernel
theorem dX7_copy_19 : decode cX7_copy 19 = .ok (.getfield 40, 3) := by decide +kernel
theorem dX7_copy_22 : decode cX7_copy 22 = .ok (.iload_n 2, 1) := by decide +kernel
theorem dX7_copy_23 : decode cX7_copy 23 = .ok (.aaload, 1) := by decide +kernel
theorem dX7_copy_24 : decode cX7_copy 24 = .ok (.aload_n 0, 1) := by decide +kernel
theorem dX7_copy_25 : decode cX7_copy 25 = .ok (.getfield 40, 3) := by decide +kernel
theorem dX7_copy_28 : decode cX7_copy 28 = .ok (.iload_n 1, 1) := by decide +kernel
theorem dX7_copy_29 : decode cX7_copy 29 = .ok (.aaload, 1) := by decide +kernel
theorem dX7_copy_30 : decode cX7_copy 30 = .ok (.invokevirtual 156, 3) := by decide +kernel
theorem dX7_copy_33 : decode cX7_copy 33 = .ok (.aload_n 0, 1) := by decide +kernel
theorem dX7_copy_34 : decode cX7_copy 34 = .ok (.getfield 40, 3) := by decide +kernel
theorem dX7_copy_37 : decode cX7_copy 37 = .ok (.iload_n 2, 1) := by decide +kernel
theorem dX7_copy_38 : decode cX7_copy 38 = .ok (.aaload, 1) := by decide +kernel
theorem dX7_copy_39 : decode cX7_copy 39 = .ok (.getfield 110, 3) := by decide +kernel
theorem dX7_copy_42 : decode cX7_copy 42 = .ok (.ireturn, 1) := by decide +kernel
set_option maxRecDepth 20000 in
theorem ggX7_drop_X7_isTokenNumber : GoodIn wsX7_drop wsX7_isTokenNumber := goodIn_r _ [6] rfl (by decide +kernel)
set_option maxRecDepth 20000 in
theorem gX7_drop_X7_isTokenNumber : GoodIn wsX7_drop (va_wsS RX7 100 yX7_isTokenNumber wsX7_isTokenNumber) := goodIn_app (goodIn_of _ (by decide +kernel)) ggX7_drop_X7_isTokenNumber
theorem dX7_drop_0 : decode cX7_drop 0 = .ok (.iload_n 1, 1) := by decide +kernel
theorem dX7_drop_1 : decode cX7_drop 1 = .ok (.invokestatic 100, 3) := by decide +kernel
theorem dX7_drop_4 : decode cX7_drop 4 = .ok (.ifCond .ne 6, 3) := by decide +kernel
theorem dX7_drop_7 : decode cX7_drop 7 = .ok (.bipush (-2), 2) := by decide +kernel
theorem dX7_drop_9 : decode cX7_drop 9 = .ok (.ireturn, 1) := by decide +kernel
theorem dX7_drop_10 : decode cX7_drop 10 = .ok (.aload_n 0, 1) := by decide +kernel
theorem dX7_drop_11 : decode cX7_drop 11 = .ok (.getfield 40, 3) := by decide +kernel
theorem dX7_drop_14 : decode cX7_drop 14 = .ok (.iload_n 1, 1) := by decide +kernel
theorem dX7_drop_15 : decode cX7_drop 15 = .ok (.aaload, 1) := by decide +kernel
theorem dX7_drop_16 : decode cX7_drop 16 = .ok (.getfield 106, 3) := by decide +kernel
theorem dX7_drop_19 : decode cX7_drop 19 = .ok (.istore_n 2, 1) := by decide +kernel
theorem dX7_drop_20 : decode cX7_drop 20 = .ok (.aload_n 0, 1) := by decide +kernel
theorem dX7_drop_21 : decode cX7_drop 21 = .ok (.getfield 40, 3) := by decide +kernel
theorem dX7_drop_24 : decode cX7_drop 24 = .ok (.iload_n 1, 1) := by decide +kernel
theorem dX7_drop_25 : decode cX7_drop 25 = .ok (.aaload, 1) := by decide +kernel
theorem dX7_drop_26 : decode cX7_drop 26 = .ok (.iconst 0, 1) := by decide +kernel
theorem dX7_drop_27 : decode cX7_drop 27 = .ok (.putfield 106, 3) := by decide +kernel
theorem dX7_drop_30 : decode cX7_drop 30 = .ok (.iload_n 2, 1) := by decide +kernel
theorem dX7_drop_31 : decode cX7_drop 31 = .ok (.ifCond .eq 7, 3) := by decide +kernel
theorem dX7_drop_34 : decode cX7_drop 34 = .ok (.iconst 1, 1) := by decide +kernel
theorem dX7_drop_35 : decode cX7_drop 35 = .ok (.goto 4, 3) := by decide +kernel
theorem dX7_drop_38 : decode cX7_drop 38 = .ok (.iconst 0, 1) := by decide +kernel
theorem dX7_drop_39 : decode cX7_drop 39 = .ok (.ireturn, 1) := by decide +kernel
set_option maxRecDepth 20000 in
theorem ggX7_told_X7_isThere : GoodIn wsX7_told wsX7_isThere := goodIn_r _ [9, 1, 10, 11, 12, 8, 13, 30, 31, 32, 33, 34, 35, 36, 37, 38, 39, 40, 41, 42, 43] rfl (by decide +kernel)
set_option maxRecDepth 20000 in
theorem gX7_told_X7_isThere : GoodIn wsX7_told (wsV RX7 123 RX7 yX7_isThere wsX7_isThere) := goodIn_app (goodIn_of _ (by decide +kernel)) ggX7_told_X7_isThere
set_option maxRecDepth 20000 in
theorem ggX7_told_X6_limitTold : GoodIn wsX7_told wsX6_limitTold := goodIn_r _ [18, 19, 20, 21, 22, 23, 24, 25, 26, 27, 28, 29, 39, 40, 41, 42, 43, 46, 47, 44, 45] rfl (by decide +kernel)
set_option maxRecDepth 20000 in
theorem gX7_told_X6_limitTold : GoodIn wsX7_told (wsV RX7 159 RX6 yX6_limitTold wsX6_limitTold) := goodIn_app (goodIn_of _ (by decide +kernel)) ggX7_told_X6_limitTold
theorem dX7_told_0 : decode cX7_told 0 = .ok (.aload_n 0, 1) := by decide +kernel
theorem dX7_told_1 : decode cX7_told 1 = .ok (.iload_n 1, 1) := by decide +kernel
theorem dX7_told_2 : decode cX7_told 2 = .ok (.invokevirtual 123, 3) := by decide +kernel
theorem dX7_told_5 : decode cX7_told 5 = .ok (.ifCond .eq 13, 3) := by decide +kernel
theorem dX7_told_8 : decode cX7_told 8 = .ok (.iload_n 2, 1) := by decide +kernel
theorem dX7_told_9 : decode cX7_told 9 = .ok (.ifCond .lt 9, 3) := by decide +kernel
theorem dX7_told_12 : decode cX7_told 12 = .ok (.iload_n 2, 1) := by decide +kernel
theorem dX7_told_13 : decode cX7_told 13 = .ok (.bipush 11, 2) := by decide +kernel
theorem dX7_told_15 : decode cX7_told 15 = .ok (.if_icmp .le 6, 3) := by decide +kernel
theorem dX7_told_18 : decode cX7_told 18 = .ok (.bipush (-2), 2) := by decide +kernel
theorem dX7_told_20 : decode cX7_told 20 = .ok (.ireturn, 1) := by decide +kernel
theorem dX7_told_21 : decode cX7_told 21 = .ok (.iload_n 2, 1) := by decide +kernel
theorem dX7_told_22 : decode cX7_told 22 = .ok (.ifCond .ne 16, 3) := by decide +kernel
theorem dX7_told_25 : decode cX7_told 25 = .ok (.aload_n 0, 1) := by decide +kernel
theorem dX7_told_26 : decode cX7_told 26 = .ok (.getfield 40, 3) := by decide +kernel
theorem dX7_told_29 : decode cX7_told 29 = .ok (.iload_n 1, 1) := by decide +kernel
theorem dX7_told_30 : decode cX7_told 30 = .ok (.aaload, 1) := by decide +kernel
theorem dX7_told_31 : decode cX7_told 31 = .ok (.getfield 113, 3) := by decide +kernel
theorem dX7_told_34 : decode cX7_told 34 = .ok (.getfield 79, 3) := by decide +kernel
theorem dX7_told_37 : decode cX7_told 37 = .ok (.ireturn, 1) := by decide +kernel
theorem dX7_told_38 : decode cX7_told 38 = .ok (.iload_n 2, 1) := by decide +kernel
theorem dX7_told_39 : decode cX7_told 39 = .ok (.iconst 1, 1) := by decide +kernel
theorem dX7_told_40 : decode cX7_told 40 = .ok (.if_icmp .ne 15, 3) := by decide +kernel
theorem dX7_told_43 : decode cX7_told 43 = .ok (.aload_n 0, 1) := by decide +kernel
theorem dX7_told_44 : decode cX7_told 44 = .ok (.getfield 40, 3) := by decide +kernel
theorem dX7_told_47 : decode cX7_told 47 = .ok (.iload_n 1, 1) := by decide +kernel
theorem dX7_told_48 : decode cX7_told 48 = .ok (.aaload, 1) := by decide +kernel
theorem dX7_told_49 : decode cX7_told 49 = .ok (.getfield 110, 3) := by decide +kernel
theorem dX7_told_52 : decode cX7_told 52 = .ok (.goto 15, 3) := by decide +kernel
theorem dX7_told_55 : decode cX7_told 55 = .ok (.aload_n 0, 1) := by decide +kernel
theorem dX7_told_56 : decode cX7_told 56 = .ok (.getfield 40, 3) := by decide +kernel
theorem dX7_told_59 : decode cX7_told 59 = .ok (.iload_n 1, 1) := by decide +kernel
theorem dX7_told_60 : decode cX7_told 60 = .ok (.aaload, 1) := by decide +kernel
theorem dX7_told_61 : decode cX7_told 61 = .ok (.iload_n 2, 1) := by decide +kernel
theorem dX7_told_62 : decode cX7_told 62 = .ok (.iconst 2, 1) := by decide +kernel
theorem dX7_told_63 : decode cX7_told 63 = .ok (.isub, 1) := by decide +kernel
theorem dX7_told_64 : decode cX7_told 64 = .ok (.invokevirtual 159, 3) := by decide +kernel
theorem dX7_told_67 : decode cX7_told 67 = .ok (.ireturn, 1) := by decide +kernel
set_option maxRecDepth 20000 in
theorem ggX7_sign_X7_isThere : GoodIn wsX7_sign wsX7_isThere := goodIn_r _ [7, 1, 8, 9, 10, 6, 11, 23, 24, 25, 26, 27, 28, 29, 30, 31, 32, 33, 34, 35, 36] rfl (by decide +kernel)
set_option maxRecDepth 20000 in
theorem gX7_sign_X7_isThere : GoodIn wsX7_sign (wsV RX7 123 RX7 yX7_isThere wsX7_isThere) := goodIn_app (goodIn_of _ (by decide +kernel)) ggX7_sign_X7_isThere
set_option maxRecDepth 20000 in
theorem ggX7_sign_X3_has : GoodIn wsX7_sign wsX3_has := goodIn_r _ [16, 17, 37, 38] rfl (by decide +kernel)
set_option maxRecDepth 20000 in
theorem gX7_sign_X3_has : GoodIn wsX7_sign (wsV RX7 162 RX3 yX3_has wsX3_has) := goodIn_app (goodIn_of _ (by decide +kernel)) ggX7_sign_X3_has
set_option maxRecDepth 20000 in
theorem ggX7_sign_X3_byteAt : GoodIn wsX7_sign wsX3_byteAt := goodIn_r _ [21, 17, 22, 37, 38] rfl (by decide +kernel)
set_option maxRecDepth 20000 in
theorem gX7_sign_X3_byteAt : GoodIn wsX7_sign (wsV RX7 86 RX3 yX3_byteAt wsX3_byteAt) := goodIn_app (goodIn_of _ (by decide +kernel)) ggX7_sign_X3_byteAt
theorem dX7_sign_0 : decode cX7_sign 0 = .ok (.aload_n 0, 1) := by decide +kernel
theorem dX7_sign_1 : decode cX7_sign 1 = .ok (.iload_n 1, 1) := by decide +kernel
theorem dX7_sign_2 : decode cX7_sign 2 = .ok (.invokevirtual 123, 3) := by decide +kernel
theorem dX7_sign_5 : decode cX7_sign 5 = .ok (.ifCond .eq 19, 3) := by decide +kernel
theorem dX7_sign_8 : decode cX7_sign 8 = .ok (.aload_n 0, 1) := by decide +kernel
theorem dX7_sign_9 : decode cX7_sign 9 = .ok (.getfield 40, 3) := by decide +kernel
theorem dX7_sign_12 : decode cX7_sign 12 = .ok (.iload_n 1, 1) := by decide +kernel
theorem dX7_sign_13 : decode cX7_sign 13 = .ok (.aaload, 1) := by decide +kernel
theorem dX7_sign_14 : decode cX7_sign 14 = .ok (.getfield 120, 3) := by decide +kernel
theorem dX7_sign_17 : decode cX7_sign 17 = .ok (.iload_n 2, 1) := by decide +kernel
theorem dX7_sign_18 : decode cX7_sign 18 = .ok (.invokevirtual 162, 3) := by decide +kernel
theorem dX7_sign_21 : decode cX7_sign 21 = .ok (.ifCond .ne 6, 3) := by decide +kernel
theorem dX7_sign_24 : decode cX7_sign 24 = .ok (.bipush (-2), 2) := by decide +kernel
theorem dX7_sign_26 : decode cX7_sign 26 = .ok (.ireturn, 1) := by decide +kernel
theorem dX7_sign_27 : decode cX7_sign 27 = .ok (.aload_n 0, 1) := by decide +kernel
theorem dX7_sign_28 : decode cX7_sign 28 = .ok (.getfield 40, 3) := by decide +kernel
theorem dX7_sign_31 : decode cX7_sign 31 = .ok (.iload_n 1, 1) := by decide +kernel
theorem dX7_sign_32 : decode cX7_sign 32 = .ok (.aaload, 1) := by decide +kernel
theorem dX7_sign_33 : decode cX7_sign 33 = .ok (.getfield 120, 3) := by decide +kernel
theorem dX7_sign_36 : decode cX7_sign 36 = .ok (.iload_n 2, 1) := by decide +kernel
theorem dX7_sign_37 : decode cX7_sign 37 = .ok (.invokevirtual 86, 3) := by decide +kernel
theorem dX7_sign_40 : decode cX7_sign 40 = .ok (.ireturn, 1) := by decide +kernel
set_option maxRecDepth 20000 in
theorem ggX7_spoil_X7_isThere : GoodIn wsX7_spoil wsX7_isThere := goodIn_r _ [10, 1, 11, 12, 13, 9, 14, 30, 31, 32, 33, 34, 35, 36, 37, 38, 39, 40, 41, 42, 43] rfl (by decide +kernel)
set_option maxRecDepth 20000 in
theorem gX7_spoil_X7_isThere : GoodIn wsX7_spoil (wsV RX7 123 RX7 yX7_isThere wsX7_isThere) := goodIn_app (goodIn_of _ (by decide +kernel)) ggX7_spoil_X7_isThere
set_option maxRecDepth 20000 in
theorem ggX7_spoil_X7_isByte : GoodIn wsX7_spoil wsX7_isByte := goodIn_r _ [17] rfl (by decide +kernel)
set_option maxRecDepth 20000 in
theorem gX7_spoil_X7_isByte : GoodIn wsX7_spoil (va_wsS RX7 165 yX7_isByte wsX7_isByte) := goodIn_app (goodIn_of _ (by decide +kernel)) ggX7_spoil_X7_isByte
set_option maxRecDepth 20000 in
theorem ggX7_spoil_X3_has : GoodIn wsX7_spoil wsX3_has := goodIn_r _ [22, 23, 46, 47] rfl (by decide +kernel)
set_option maxRecDepth 20000 in
theorem gX7_spoil_X3_has : GoodIn wsX7_spoil (wsV RX7 162 RX3 yX3_has wsX3_has) := goodIn_app (goodIn_of _ (by decide +kernel)) ggX7_spoil_X3_has
set_option maxRecDepth 20000 in
theorem ggX7_spoil_X3_flip : GoodIn wsX7_spoil wsX3_flip := goodIn_r _ [27, 28, 29, 19, 20, 21, 22, 23, 46, 47] rfl (by decide +kernel)
set_option maxRecDepth 20000 in
theorem gX7_spoil_X3_flip : GoodIn wsX7_spoil (wsV RX7 168 RX3 yX3_flip wsX3_flip) := goodIn_app (goodIn_of _ (by decide +kernel)) ggX7_spoil_X3_flip
theorem dX7_spoil_0 : decode cX7_spoil 0 = .ok (.aload_n 0, 1) := by decide +kernel
theorem dX7_spoil_1 : decode cX7_spoil 1 = .ok (.iload_n 1, 1) := by decide +kernel
theorem dX7_spoil_2 : decode cX7_spoil 2 = .ok (.invokevirtual 123, 3) := by decide +kernel
theorem dX7_spoil_5 : decode cX7_spoil 5 = .ok (.ifCond .eq 28, 3) := by decide +kernel
theorem dX7_spoil_8 : decode cX7_spoil 8 = .ok (.iload_n 2, 1) := by decide +kernel
theorem dX7_spoil_9 : decode cX7_spoil 9 = .ok (.ifCond .lt 24, 3) := by decide +kernel
theorem dX7_spoil_12 : decode cX7_spoil 12 = .ok (.iload_n 2, 1) := by decide +kernel
theorem dX7_spoil_13 : decode cX7_spoil 13 = .ok (.aload_n 0, 1) := by decide +kernel
theorem dX7_spoil_14 : decode cX7_spoil 14 = .ok (.getfield 40, 3) := by decide +kernel
theorem dX7_spoil_17 : decode cX7_spoil 17 = .ok (.iload_n 1, 1) := by decide +kernel
theorem dX7_spoil_18 : decode cX7_spoil 18 = .ok (.aaload, 1) := by decide +kernel
theorem dX7_spoil_19 : decode cX7_spoil 19 = .ok (.getfield 110, 3) := by decide +kernel
theorem dX7_spoil_22 : decode cX7_spoil 22 = .ok (.if_icmp .gt 11, 3) := by decide +kernel
theorem dX7_spoil_25 : decode cX7_spoil 25 = .ok (.iload 4, 2) := by decide +kernel
theorem dX7_spoil_27 : decode cX7_spoil 27 = .ok (.invokestatic 165, 3) := by decide +kernel
theorem dX7_spoil_30 : decode cX7_spoil 30 = .ok (.ifCond .ne 6, 3) := by decide +kernel
theorem dX7_spoil_33 : decode cX7_spoil 33 = .ok (.bipush (-2), 2) := by decide +kernel
theorem dX7_spoil_35 : decode cX7_spoil 35 = .ok (.ireturn, 1) := by decide +kernel
theorem dX7_spoil_36 : decode cX7_spoil 36 = .ok (.iload_n 2, 1) := by decide +kernel
theorem dX7_spoil_37 : decode cX7_spoil 37 = .ok (.ifCond .ne 15, 3) := by decide +kernel
theorem dX7_spoil_40 : decode cX7_spoil 40 = .ok (.aload_n 0, 1) := by decide +kernel
theorem dX7_spoil_41 : decode cX7_spoil 41 = .ok (.getfield 40, 3) := by decide +kernel
theorem dX7_spoil_44 : decode cX7_spoil 44 = .ok (.iload_n 1, 1) := by decide +kernel
theorem dX7_spoil_45 : decode cX7_spoil 45 = .ok (.aaload, 1) := by decide +kernel
theorem dX7_spoil_46 : decode cX7_spoil 46 = .ok (.getfield 120, 3) := by decide +kernel
theorem dX7_spoil_49 : decode cX7_spoil 49 = .ok (.goto 19, 3) := by decide +kernel
theorem dX7_spoil_52 : decode cX7_spoil 52 = .ok (.aload_n 0, 1) := by decide +kernel
theorem dX7_spoil_53 : decode cX7_spoil 53 = .ok (.getfield 40, 3) := by decide +kernel
theorem dX7_spoil_56 : decode cX7_spoil 56 = .ok (.iload_n 1, 1) := by decide +kernel
theorem dX7_spoil_57 : decode cX7_spoil 57 = .ok (.aaload, 1) := by decide +kernel
theorem dX7_spoil_58 : decode cX7_spoil 58 = .ok (.getfield 130, 3) := by decide +kernel
theorem dX7_spoil_61 : decode cX7_spoil 61 = .ok (.iload_n 2, 1) := by decide +kernel
theorem dX7_spoil_62 : decode cX7_spoil 62 = .ok (.iconst 1, 1) := by decide +kernel
theorem dX7_spoil_63 : decode cX7_spoil 63 = .ok (.isub, 1) := by decide +kernel
theorem dX7_spoil_64 : decode cX7_spoil 64 = .ok (.aaload, 1) := by decide +kernel
theorem dX7_spoil_65 : decode cX7_spoil 65 = .ok (.getfield 134, 3) := by decide +kernel
theorem dX7_spoil_68 : decode cX7_spoil 68 = .ok (.astore 5, 2) := by decide +kernel
theorem dX7_spoil_70 : decode cX7_spoil 70 = .ok (.aload 5, 2) := by decide +kernel
theorem dX7_spoil_72 : decode cX7_spoil 72 = .ok (.iload_n 3, 1) := by decide +kernel
theorem dX7_spoil_73 : decode cX7_spoil 73 = .ok (.invokevirtual 162, 3) := by decide +kernel
theorem dX7_spoil_76 : decode cX7_spoil 76 = .ok (.ifCond .eq 14, 3) := by decide +kernel
theorem dX7_spoil_79 : decode cX7_spoil 79 = .ok (.aload 5, 2) := by decide +kernel
theorem dX7_spoil_81 : decode cX7_spoil 81 = .ok (.iload_n 3, 1) := by decide +kernel
theorem dX7_spoil_82 : decode cX7_spoil 82 = .ok (.iload 4, 2) := by decide +kernel
theorem dX7_spoil_84 : decode cX7_spoil 84 = .ok (.invokevirtual 168, 3) := by decide +kernel
theorem dX7_spoil_87 : decode cX7_spoil 87 = .ok (.goto 5, 3) := by decide +kernel
theorem dX7_spoil_90 : decode cX7_spoil 90 = .ok (.bipush (-2), 2) := by decide +kernel
theorem dX7_spoil_92 : decode cX7_spoil 92 = .ok (.ireturn, 1) := by decide +kernel
theorem dX7_ask_0 : decode cX7_ask 0 = .ok (.iload_n 1, 1) := by decide +kernel
theorem dX7_ask_1 : decode cX7_ask 1 = .ok (.ifCond .lt 19, 3) := by decide +kernel
theorem dX7_ask_4 : decode cX7_ask 4 = .ok (.iload_n 1, 1) := by decide +kernel
theorem dX7_ask_5 : decode cX7_ask 5 = .ok (.bipush 8, 2) := by decide +kernel
theorem dX7_ask_7 : decode cX7_ask 7 = .ok (.if_icmp .ge 13, 3) := by decide +kernel
theorem dX7_ask_10 : decode cX7_ask 10 = .ok (.iload_n 2, 1) := by decide +kernel
theorem dX7_ask_11 : decode cX7_ask 11 = .ok (.ifCond .lt 9, 3) := by decide +kernel
theorem dX7_ask_14 : decode cX7_ask 14 = .ok (.iload_n 2, 1) := by decide +kernel
theorem dX7_ask_15 : decode cX7_ask 15 = .ok (.ldc 172, 2) := by decide +kernel
theorem dX7_ask_17 : decode cX7_ask 17 = .ok (.if_icmp .le 6, 3) := by decide +kernel
theorem dX7_ask_20 : decode cX7_ask 20 = .ok (.bipush (-2), 2) := by decide +kernel
theorem dX7_ask_22 : decode cX7_ask 22 = .ok (.ireturn, 1) := by decide +kernel
theorem dX7_ask_23 : decode cX7_ask 23 = .ok (.aload_n 0, 1) := by decide +kernel
theorem dX7_ask_24 : decode cX7_ask 24 = .ok (.getfield 57, 3) := by decide +kernel
theorem dX7_ask_27 : decode cX7_ask 27 = .ok (.iload_n 1, 1) := by decide +kernel
theorem dX7_ask_28 : decode cX7_ask 28 = .ok (.iaload, 1) := by decide +kernel
theorem dX7_ask_29 : decode cX7_ask 29 = .ok (.istore_n 3, 1) := by decide +kernel
theorem dX7_ask_30 : decode cX7_ask 30 = .ok (.aload_n 0, 1) := by decide +kernel
theorem dX7_ask_31 : decode cX7_ask 31 = .ok (.getfield 57, 3) := by decide +kernel
theorem dX7_ask_34 : decode cX7_ask 34 = .ok (.iload_n 1, 1) := by decide +kernel
theorem dX7_ask_35 : decode cX7_ask 35 = .ok (.iload_n 2, 1) := by decide +kernel
theorem dX7_ask_36 : decode cX7_ask 36 = .ok (.iastore, 1) := by decide +kernel
theorem dX7_ask_37 : decode cX7_ask 37 = .ok (.iload_n 3, 1) := by decide +kernel
theorem dX7_ask_38 : decode cX7_ask 38 = .ok (.ireturn, 1) := by decide +kernel
set_option maxRecDepth 20000 in
theorem ggX7_truth_X7_isRegister : GoodIn wsX7_truth wsX7_isRegister := goodIn_r _ [6] rfl (by decide +kernel)
set_option maxRecDepth 20000 in
theorem gX7_truth_X7_isRegister : GoodIn wsX7_truth (va_wsS RX7 68 yX7_isRegister wsX7_isRegister) := goodIn_app (goodIn_of _ (by decide +kernel)) ggX7_truth_X7_isRegister
set_option maxRecDepth 20000 in
theorem ggX7_truth_X0_judgeText : GoodIn wsX7_truth wsX0_judgeText := goodIn_r _ [11, 12, 13, 14, 15, 16, 10, 17, 18, 19, 20, 21, 22, 23, 24, 25, 26, 27, 28, 29, 30, 31, 32, 33, 34, 35, 36, 37, 38, 39, 49, 50, 51, 52] rfl (by decide +kernel)
set_option maxRecDepth 20000 in
theorem gX7_truth_X0_judgeText : GoodIn wsX7_truth (wsV RX7 173 RX0 yX0_judgeText wsX0_judgeText) := goodIn_app (goodIn_of _ (by decide +kernel)) ggX7_truth_X0_judgeText
theorem dX7_truth_0 : decode cX7_truth 0 = .ok (.iload_n 1, 1) := by decide +kernel
theorem dX7_truth_1 : decode cX7_truth 1 = .ok (.invokestatic 68, 3) := by decide +kernel
theorem dX7_truth_4 : decode cX7_truth 4 = .ok (.ifCond .eq 19, 3) := by decide +kernel
theorem dX7_truth_7 : decode cX7_truth 7 = .ok (.aload_n 0, 1) := by decide +kernel
theorem dX7_truth_8 : decode cX7_truth 8 = .ok (.getfield 50, 3) := by decide +kernel
theorem dX7_truth_11 : decode cX7_truth 11 = .ok (.aload_n 0, 1) := by decide +kernel
theorem dX7_truth_12 : decode cX7_truth 12 = .ok (.getfield 11, 3) := by decide +kernel
theorem dX7_truth_15 : decode cX7_truth 15 = .ok (.iload_n 1, 1) := by decide +kernel
theorem dX7_truth_16 : decode cX7_truth 16 = .ok (.aaload, 1) := by decide +kernel
theorem dX7_truth_17 : decode cX7_truth 17 = .ok (.invokevirtual 173, 3) := by decide +kernel
theorem dX7_truth_20 : decode cX7_truth 20 = .ok (.goto 5, 3) := by decide +kernel
theorem dX7_truth_23 : decode cX7_truth 23 = .ok (.bipush (-2), 2) := by decide +kernel
theorem dX7_truth_25 : decode cX7_truth 25 = .ok (.ireturn, 1) := by decide +kernel
set_option maxRecDepth 20000 in
theorem ggX7_prove_X7_isThere : GoodIn wsX7_prove wsX7_isThere := goodIn_r _ [8, 9, 10, 11, 12, 7, 13, 206, 207, 208, 209, 210, 211, 212, 213, 214, 226, 227, 228, 229, 230] rfl (by decide +kernel)
set_option maxRecDepth 20000 in
theorem gX7_prove_X7_isThere : GoodIn wsX7_prove (wsV RX7 123 RX7 yX7_isThere wsX7_isThere) := goodIn_app (goodIn_of _ (by decide +kernel)) ggX7_prove_X7_isThere
set_option maxRecDepth 20000 in
theorem ggX7_prove_X7_isRegister : GoodIn wsX7_prove wsX7_isRegister := goodIn_r _ [16] rfl (by decide +kernel)
set_option maxRecDepth 20000 in
theorem gX7_prove_X7_isRegister : GoodIn wsX7_prove (va_wsS RX7 68 yX7_isRegister wsX7_isRegister) := goodIn_app (goodIn_of _ (by decide +kernel)) ggX7_prove_X7_isRegister
set_option maxRecDepth 20000 in
theorem ggX7_prove_X7_areThere : GoodIn wsX7_prove wsX7_areThere := goodIn_r _ [20, 9, 10, 206, 207, 208, 209, 210, 211, 212, 213, 214, 226, 227, 228, 229, 230] rfl (by decide +kernel)
set_option maxRecDepth 20000 in
theorem gX7_prove_X7_areThere : GoodIn wsX7_prove (wsV RX7 177 RX7 yX7_areThere wsX7_areThere) := goodIn_app (goodIn_of _ (by decide +kernel)) ggX7_prove_X7_areThere
set_option maxRecDepth 20000 in
theorem ggX7_prove_X2_begin : GoodIn wsX7_prove wsX2_begin := goodIn_r _ [25, 26, 27, 28, 29, 30, 31, 215, 216, 217, 218, 219, 220, 221, 222, 223, 224, 225] rfl (by decide +kernel)
set_option maxRecDepth 20000 in
theorem gX7_prove_X2_begin : GoodIn wsX7_prove (wsV RX7 180 RX2 yX2_begin wsX2_begin) := goodIn_app (goodIn_of _ (by decide +kernel)) ggX7_prove_X2_begin
set_option maxRecDepth 20000 in
theorem ggX7_prove_X2_walk : GoodIn wsX7_prove wsX2_walk := goodIn_r _ [34, 35, 36, 37, 38, 39, 40, 41, 42, 43, 44, 45, 46, 47, 48, 49, 50, 51, 52, 53, 54, 55, 56, 57, 58, 59, 60, 61, 62, 63, 64, 65, 66, 67, 68, 69, 70, 71, 72, 73, 74, 75, 76, 77, 78, 79, 80, 81, 82, 83, 84, 85, 86, 87, 88, 89, 90, 91, 92, 93, 94, 95, 96, 97, 98, 99, 100, 101, 102, 103, 104, 105, 106, 107, 108, 109, 110, 111, 112, 113, 114, 115, 116, 117, 118, 119, 120, 24, 121, 122, 123, 124, 125, 126, 127, 128, 129, 130, 131, 132, 133, 134, 135, 136, 137, 138, 139, 140, 141, 142, 143, 144, 145, 146, 147, 148, 149, 150, 151, 152, 153, 154, 155, 156, 157, 28, 29, 30, 158, 159, 160, 161, 162, 163, 164, 27, 31, 165, 166, 26, 167, 168, 169, 170, 171, 172, 173, 174, 175, 176, 177, 178, 179, 180, 181, 182, 183, 184, 185, 186, 187, 188, 189, 32, 33, 190, 191, 192, 193, 194, 195, 196, 197, 198, 199, 200, 201, 215, 216, 217, 218, 219, 220, 221, 222, 223, 224, 225, 226, 227, 228, 229, 230, 231, 232, 233, 234, 235, 236, 237, 238, 239, 240, 241, 242, 243, 244, 245] rfl (by decide +kernel)
set_option maxRecDepth 20000 in
theorem gX7_prove_X2_walk_n184 : GoodIn wsX7_prove (wsX2_walk) := ggX7_prove_X2_walk
set_option maxRecDepth 20000 in
theorem ggX7_prove_X2_compareSign : GoodIn wsX7_prove wsX2_compareSign := goodIn_r _ [205, 37, 35, 26, 167, 39, 172, 173, 174, 53, 175, 55, 60, 154, 155, 156, 24, 157, 28, 29, 30, 215, 216, 217, 218, 219, 220, 221, 222, 223, 224, 225, 226, 227, 228, 229, 230, 233, 234] rfl (by decide +kernel)
set_option maxRecDepth 20000 in
theorem gX7_prove_X2_compareSign : GoodIn wsX7_prove (wsV RX7 188 RX2 yX2_compareSign wsX2_compareSign) := goodIn_app (goodIn_of _ (by decide +kernel)) ggX7_prove_X2_compareSign
theorem dX7_prove_0 : decode cX7_prove 0 = .ok (.aload_n 0, 1) := by decide +kernel
theorem dX7_prove_1 : decode cX7_prove 1 = .ok (.iload_n 1, 1) := by decide +kernel
theorem dX7_prove_2 : decode cX7_prove 2 = .ok (.invokevirtual 123, 3) := by decide +kernel
theorem dX7_prove_5 : decode cX7_prove 5 = .ok (.ifCond .eq 18, 3) := by decide +kernel
theorem dX7_prove_8 : decode cX7_prove 8 = .ok (.iload_n 2, 1) := by decide +kernel
theorem dX7_prove_9 : decode cX7_prove 9 = .ok (.invokestatic 68, 3) := by decide +kernel
theorem dX7_prove_12 : decode cX7_prove 12 = .ok (.ifCond .eq 11, 3) := by decide +kernel
theorem dX7_prove_15 : decode cX7_prove 15 = .ok (.aload_n 0, 1) := by decide +kernel
theorem dX7_prove_16 : decode cX7_prove 16 = .ok (.iload_n 3, 1) := by decide +kernel
theorem dX7_prove_17 : decode cX7_prove 17 = .ok (.invokevirtual 177, 3) := by decide +kernel
theorem dX7_prove_20 : decode cX7_prove 20 = .ok (.ifCond .ne 6, 3) := by decide +kernel
theorem dX7_prove_23 : decode cX7_prove 23 = .ok (.bipush (-2), 2) := by decide +kernel
theorem dX7_prove_25 : decode cX7_prove 25 = .ok (.ireturn, 1) := by decide +kernel
theorem dX7_prove_26 : decode cX7_prove 26 = .ok (.aload_n 0, 1) := by decide +kernel
theorem dX7_prove_27 : decode cX7_prove 27 = .ok (.getfield 18, 3) := by decide +kernel
theorem dX7_prove_30 : decode cX7_prove 30 = .ok (.iload_n 1, 1) := by decide +kernel
theorem dX7_prove_31 : decode cX7_prove 31 = .ok (.iload_n 3, 1) := by decide +kernel
theorem dX7_prove_32 : decode cX7_prove 32 = .ok (.invokevirtual 180, 3) := by decide +kernel
theorem dX7_prove_35 : decode cX7_prove 35 = .ok (.aload_n 0, 1) := by decide +kernel
theorem dX7_prove_36 : decode cX7_prove 36 = .ok (.getfield 18, 3) := by decide +kernel
theorem dX7_prove_39 : decode cX7_prove 39 = .ok (.iload_n 1, 1) := by decide +kernel
theorem dX7_prove_40 : decode cX7_prove 40 = .ok (.aload_n 0, 1) := by decide +kernel
theorem dX7_prove_41 : decode cX7_prove 41 = .ok (.getfield 11, 3) := by decide +kernel
theorem dX7_prove_44 : decode cX7_prove 44 = .ok (.iload_n 2, 1) := by decide +kernel
theorem dX7_prove_45 : decode cX7_prove 45 = .ok (.aaload, 1) := by decide +kernel
theorem dX7_prove_46 : decode cX7_prove 46 = .ok (.iconst 0, 1) := by decide +kernel
theorem dX7_prove_47 : decode cX7_prove 47 = .ok (.invokevirtual 184, 3) := by decide +kernel
theorem dX7_prove_50 : decode cX7_prove 50 = .ok (.ifCond .eq 10, 3) := by decide +kernel
theorem dX7_prove_53 : decode cX7_prove 53 = .ok (.aload_n 0, 1) := by decide +kernel
theorem dX7_prove_54 : decode cX7_prove 54 = .ok (.getfield 18, 3) := by decide +kernel
theorem dX7_prove_57 : decode cX7_prove 57 = .ok (.invokevirtual 188, 3) := by decide +kernel
theorem dX7_prove_60 : decode cX7_prove 60 = .ok (.aload_n 0, 1) := by decide +kernel
theorem dX7_prove_61 : decode cX7_prove 61 = .ok (.getfield 18, 3) := by decide +kernel
theorem dX7_prove_64 : decode cX7_prove 64 = .ok (.getfield 191, 3) := by decide +kernel
theorem dX7_prove_67 : decode cX7_prove 67 = .ok (.ifCond .ne 7, 3) := by decide +kernel
theorem dX7_prove_70 : decode cX7_prove 70 = .ok (.iconst 0, 1) := by decide +kernel
theorem dX7_prove_71 : decode cX7_prove 71 = .ok (.goto 13, 3) := by decide +kernel
theorem dX7_prove_74 : decode cX7_prove 74 = .ok (.bipush (-10), 2) := by decide +kernel
theorem dX7_prove_76 : decode cX7_prove 76 = .ok (.aload_n 0, 1) := by decide +kernel
theorem dX7_prove_77 : decode cX7_prove 77 = .ok (.getfield 18, 3) := by decide +kernel
theorem dX7_prove_80 : decode cX7_prove 80 = .ok (.getfield 191, 3) := by decide +kernel
theorem dX7_prove_83 : decode cX7_prove 83 = .ok (.isub, 1) := by decide +kernel
theorem dX7_prove_84 : decode cX7_prove 84 = .ok (.ireturn, 1) := by decide +kernel
theorem dX7_fault_0 : decode cX7_fault 0 = .ok (.iload_n 1, 1) := by decide +kernel
theorem dX7_fault_1 : decode cX7_fault 1 = .ok (.tableswitch 51 0 2 #[27, 35, 43], 27) := by decide +kernel
theorem dX7_fault_28 : decode cX7_fault 28 = .ok (.aload_n 0, 1) := by decide +kernel
theorem dX7_fault_29 : decode cX7_fault 29 = .ok (.getfield 18, 3) := by decide +kernel
theorem dX7_fault_32 : decode cX7_fault 32 = .ok (.getfield 194, 3) := by decide +kernel
theorem dX7_fault_35 : decode cX7_fault 35 = .ok (.ireturn, 1) := by decide +kernel
theorem dX7_fault_36 : decode cX7_fault 36 = .ok (.aload_n 0, 1) := by decide +kernel
theorem dX7_fault_37 : decode cX7_fault 37 = .ok (.getfield 18, 3) := by decide +kernel
theorem dX7_fault_40 : decode cX7_fault 40 = .ok (.getfield 197, 3) := by decide +kernel
theorem dX7_fault_43 : decode cX7_fault 43 = .ok (.ireturn, 1) := by decide +kernel
theorem dX7_fault_44 : decode cX7_fault 44 = .ok (.aload_n 0, 1) := by decide +kernel
theorem dX7_fault_45 : decode cX7_fault 45 = .ok (.getfield 18, 3) := by decide +kernel
theorem dX7_fault_48 : decode cX7_fault 48 = .ok (.getfield 200, 3) := by decide +kernel
theorem dX7_fault_51 : decode cX7_fault 51 = .ok (.ireturn, 1) := by decide +kernel
theorem dX7_fault_52 : decode cX7_fault 52 = .ok (.bipush (-2), 2) := by decide +kernel
theorem dX7_fault_54 : decode cX7_fault 54 = .ok (.ireturn, 1) := by decide +kernel
set_option maxRecDepth 20000 in
theorem ggX7_write_X7_isThere : GoodIn wsX7_write wsX7_isThere := goodIn_r _ [8, 2, 9, 10, 11, 7, 12, 60, 61, 62, 63, 64, 65, 66, 67, 68, 71, 72, 73, 74, 75] rfl (by decide +kernel)
set_option maxRecDepth 20000 in
theorem gX7_write_X7_isThere : GoodIn wsX7_write (wsV RX7 123 RX7 yX7_isThere wsX7_isThere) := goodIn_app (goodIn_of _ (by decide +kernel)) ggX7_write_X7_isThere
set_option maxRecDepth 20000 in
theorem ggX7_write_X3_makeEmpty : GoodIn wsX7_write wsX3_makeEmpty := goodIn_r _ [17, 18, 69, 70] rfl (by decide +kernel)
set_option maxRecDepth 20000 in
theorem gX7_write_X3_makeEmpty : GoodIn wsX7_write (wsV RX7 83 RX3 yX3_makeEmpty wsX3_makeEmpty) := goodIn_app (goodIn_of _ (by decide +kernel)) ggX7_write_X3_makeEmpty
set_option maxRecDepth 20000 in
theorem ggX7_write_X6_putOn : GoodIn wsX7_write wsX6_putOn := goodIn_r _ [23, 24, 25, 26, 27, 28, 29, 30, 31, 16, 32, 18, 33, 34, 35, 36, 37, 38, 39, 40, 41, 42, 43, 44, 45, 46, 47, 48, 49, 50, 51, 52, 53, 54, 55, 56, 57, 58, 59, 71, 72, 73, 74, 75, 69, 70, 76, 77] rfl (by decide +kernel)
set_option maxRecDepth 20000 in
theorem gX7_write_X6_putOn : GoodIn wsX7_write (wsV RX7 203 RX6 yX6_putOn wsX6_putOn) := goodIn_app (goodIn_of _ (by decide +kernel)) ggX7_write_X6_putOn
theorem dX7_write_0 : decode cX7_write 0 = .ok (.aload_n 0, 1) := by decide +kernel
theorem dX7_write_1 : decode cX7_write 1 = .ok (.iload_n 1, 1) := by decide +kernel
theorem dX7_write_2 : decode cX7_write 2 = .ok (.invokevirtual 123, 3) := by decide +kernel
theorem dX7_write_5 : decode cX7_write 5 = .ok (.ifCond .ne 6, 3) := by decide +kernel
theorem dX7_write_8 : decode cX7_write 8 = .ok (.bipush (-2), 2) := by decide +kernel
theorem dX7_write_10 : decode cX7_write 10 = .ok (.ireturn, 1) := by decide +kernel
theorem dX7_write_11 : decode cX7_write 11 = .ok (.aload_n 0, 1) := by decide +kernel
theorem dX7_write_12 : decode cX7_write 12 = .ok (.getfield 62, 3) := by decide +kernel
theorem dX7_write_15 : decode cX7_write 15 = .ok (.invokevirtual 83, 3) := by decide +kernel
theorem dX7_write_18 : decode cX7_write 18 = .ok (.aload_n 0, 1) := by decide +kernel
theorem dX7_write_19 : decode cX7_write 19 = .ok (.getfield 40, 3) := by decide +kernel
theorem dX7_write_22 : decode cX7_write 22 = .ok (.iload_n 1, 1) := by decide +kernel
theorem dX7_write_23 : decode cX7_write 23 = .ok (.aaload, 1) := by decide +kernel
theorem dX7_write_24 : decode cX7_write 24 = .ok (.aload_n 0, 1) := by decide +kernel
theorem dX7_write_25 : decode cX7_write 25 = .ok (.getfield 62, 3) := by decide +kernel
theorem dX7_write_28 : decode cX7_write 28 = .ok (.invokevirtual 203, 3) := by decide +kernel
theorem dX7_write_31 : decode cX7_write 31 = .ok (.aload_n 0, 1) := by decide +kernel
theorem dX7_write_32 : decode cX7_write 32 = .ok (.getfield 62, 3) := by decide +kernel
theorem dX7_write_35 : decode cX7_write 35 = .ok (.getfield 79, 3) := by decide +kernel
theorem dX7_write_38 : decode cX7_write 38 = .ok (.ireturn, 1) := by decide +kernel
set_option maxRecDepth 20000 in
theorem ggX7_type_X7_isWidth : GoodIn wsX7_type wsX7_isWidth := goodIn_r _ [5] rfl (by decide +kernel)
set_option maxRecDepth 20000 in
theorem gX7_type_X7_isWidth : GoodIn wsX7_type (va_wsS RX7 72 yX7_isWidth wsX7_isWidth) := goodIn_app (goodIn_of _ (by decide +kernel)) ggX7_type_X7_isWidth
set_option maxRecDepth 20000 in
theorem ggX7_type_X7_pushLowest : GoodIn wsX7_type wsX7_pushLowest := goodIn_r _ [8, 9, 10, 11, 12, 13, 14, 15, 16, 17, 18, 19, 20, 30, 31] rfl (by decide +kernel)
set_option maxRecDepth 20000 in
theorem gX7_type_X7_pushLowest : GoodIn wsX7_type (va_wsS RX7 75 yX7_pushLowest wsX7_pushLowest) := goodIn_app (goodIn_of _ (by decide +kernel)) ggX7_type_X7_pushLowest
theorem dX7_type_0 : decode cX7_type 0 = .ok (.iload_n 3, 1) := by decide +kernel
theorem dX7_type_1 : decode cX7_type 1 = .ok (.invokestatic 72, 3) := by decide +kernel
theorem dX7_type_4 : decode cX7_type 4 = .ok (.ifCond .eq 15, 3) := by decide +kernel
theorem dX7_type_7 : decode cX7_type 7 = .ok (.aload_n 0, 1) := by decide +kernel
theorem dX7_type_8 : decode cX7_type 8 = .ok (.getfield 62, 3) := by decide +kernel
theorem dX7_type_11 : decode cX7_type 11 = .ok (.iload_n 3, 1) := by decide +kernel
theorem dX7_type_12 : decode cX7_type 12 = .ok (.lload_n 1, 1) := by decide +kernel
theorem dX7_type_13 : decode cX7_type 13 = .ok (.invokestatic 75, 3) := by decide +kernel
theorem dX7_type_16 : decode cX7_type 16 = .ok (.goto 5, 3) := by decide +kernel
theorem dX7_type_19 : decode cX7_type 19 = .ok (.bipush (-2), 2) := by decide +kernel
theorem dX7_type_21 : decode cX7_type 21 = .ok (.ireturn, 1) := by decide +kernel
set_option maxRecDepth 20000 in
theorem ggX7_tape_X3_byteAt : GoodIn wsX7_tape wsX3_byteAt := goodIn_r _ [6, 7, 8, 18, 19] rfl (by decide +kernel)
set_option maxRecDepth 20000 in
theorem gX7_tape_X3_byteAt : GoodIn wsX7_tape (wsV RX7 86 RX3 yX3_byteAt wsX3_byteAt) := goodIn_app (goodIn_of _ (by decide +kernel)) ggX7_tape_X3_byteAt
theorem dX7_tape_0 : decode cX7_tape 0 = .ok (.aload_n 0, 1) := by decide +kernel
theorem dX7_tape_1 : decode cX7_tape 1 = .ok (.getfield 62, 3) := by decide +kernel
theorem dX7_tape_4 : decode cX7_tape 4 = .ok (.iload_n 1, 1) := by decide +kernel
theorem dX7_tape_5 : decode cX7_tape 5 = .ok (.invokevirtual 86, 3) := by decide +kernel
theorem dX7_tape_8 : decode cX7_tape 8 = .ok (.ireturn, 1) := by decide +kernel
theorem dX7_cut_0 : decode cX7_cut 0 = .ok (.iload_n 1, 1) := by decide +kernel
theorem dX7_cut_1 : decode cX7_cut 1 = .ok (.ifCond .lt 14, 3) := by decide +kernel
theorem dX7_cut_4 : decode cX7_cut 4 = .ok (.iload_n 1, 1) := by decide +kernel
theorem dX7_cut_5 : decode cX7_cut 5 = .ok (.aload_n 0, 1) := by decide +kernel
theorem dX7_cut_6 : decode cX7_cut 6 = .ok (.getfield 62, 3) := by decide +kernel
theorem dX7_cut_9 : decode cX7_cut 9 = .ok (.getfield 79, 3) := by decide +kernel
theorem dX7_cut_12 : decode cX7_cut 12 = .ok (.if_icmp .le 6, 3) := by decide +kernel
theorem dX7_cut_15 : decode cX7_cut 15 = .ok (.bipush (-2), 2) := by decide +kernel
theorem dX7_cut_17 : decode cX7_cut 17 = .ok (.ireturn, 1) := by decide +kernel
theorem dX7_cut_18 : decode cX7_cut 18 = .ok (.aload_n 0, 1) := by decide +kernel
theorem dX7_cut_19 : decode cX7_cut 19 = .ok (.getfield 62, 3) := by decide +kernel
theorem dX7_cut_22 : decode cX7_cut 22 = .ok (.getfield 79, 3) := by decide +kernel
theorem dX7_cut_25 : decode cX7_cut 25 = .ok (.iload_n 1, 1) := by decide +kernel
theorem dX7_cut_26 : decode cX7_cut 26 = .ok (.isub, 1) := by decide +kernel
theorem dX7_cut_27 : decode cX7_cut 27 = .ok (.istore_n 2, 1) := by decide +kernel
theorem dX7_cut_28 : decode cX7_cut 28 = .ok (.aload_n 0, 1) := by decide +kernel
theorem dX7_cut_29 : decode cX7_cut 29 = .ok (.getfield 62, 3) := by decide +kernel
theorem dX7_cut_32 : decode cX7_cut 32 = .ok (.iload_n 1, 1) := by decide +kernel
theorem dX7_cut_33 : decode cX7_cut 33 = .ok (.putfield 79, 3) := by decide +kernel
theorem dX7_cut_36 : decode cX7_cut 36 = .ok (.iload_n 2, 1) := by decide +kernel
theorem dX7_cut_37 : decode cX7_cut 37 = .ok (.ireturn, 1) := by decide +kernel
set_option maxRecDepth 20000 in
theorem ggX7_forge_X3_has : GoodIn wsX7_forge wsX3_has := goodIn_r _ [6, 7, 27, 28] rfl (by decide +kernel)
set_option maxRecDepth 20000 in
theorem gX7_forge_X3_has : GoodIn wsX7_forge (wsV RX7 162 RX3 yX3_has wsX3_has) := goodIn_app (goodIn_of _ (by decide +kernel)) ggX7_forge_X3_has
set_option maxRecDepth 20000 in
theorem ggX7_forge_X7_isByte : GoodIn wsX7_forge wsX7_isByte := goodIn_r _ [11] rfl (by decide +kernel)
set_option maxRecDepth 20000 in
theorem gX7_forge_X7_isByte : GoodIn wsX7_forge (va_wsS RX7 165 yX7_isByte wsX7_isByte) := goodIn_app (goodIn_of _ (by decide +kernel)) ggX7_forge_X7_isByte
set_option maxRecDepth 20000 in
theorem ggX7_forge_X3_flip : GoodIn wsX7_forge wsX3_flip := goodIn_r _ [15, 16, 17, 3, 4, 5, 6, 7, 27, 28] rfl (by decide +kernel)
set_option maxRecDepth 20000 in
theorem gX7_forge_X3_flip : GoodIn wsX7_forge (wsV RX7 168 RX3 yX3_flip wsX3_flip) := goodIn_app (goodIn_of _ (by decide +kernel)) ggX7_forge_X3_flip
theorem dX7_forge_0 : decode cX7_forge 0 = .ok (.aload_n 0, 1) := by decide +kernel
theorem dX7_forge_1 : decode cX7_forge 1 = .ok (.getfield 62, 3) := by decide +kernel
theorem dX7_forge_4 : decode cX7_forge 4 = .ok (.iload_n 1, 1) := by decide +kernel
theorem dX7_forge_5 : decode cX7_forge 5 = .ok (.invokevirtual 162, 3) := by decide +kernel
theorem dX7_forge_8 : decode cX7_forge 8 = .ok (.ifCond .eq 22, 3) := by decide +kernel
theorem dX7_forge_11 : decode cX7_forge 11 = .ok (.iload_n 2, 1) := by decide +kernel
theorem dX7_forge_12 : decode cX7_forge 12 = .ok (.invokestatic 165, 3) := by decide +kernel
theorem dX7_forge_15 : decode cX7_forge 15 = .ok (.ifCond .eq 15, 3) := by decide +kernel
theorem dX7_forge_18 : decode cX7_forge 18 = .ok (.aload_n 0, 1) := by decide +kernel
theorem dX7_forge_19 : decode cX7_forge 19 = .ok (.getfield 62, 3) := by decide +kernel
theorem dX7_forge_22 : decode cX7_forge 22 = .ok (.iload_n 1, 1) := by decide +kernel
theorem dX7_forge_23 : decode cX7_forge 23 = .ok (.iload_n 2, 1) := by decide +kernel
theorem dX7_forge_24 : decode cX7_forge 24 = .ok (.invokevirtual 168, 3) := by decide +kernel
theorem dX7_forge_27 : decode cX7_forge 27 = .ok (.goto 5, 3) := by decide +kernel
theorem dX7_forge_30 : decode cX7_forge 30 = .ok (.bipush (-2), 2) := by decide +kernel
theorem dX7_forge_32 : decode cX7_forge 32 = .ok (.ireturn, 1) := by decide +kernel
set_option maxRecDepth 20000 in
theorem ggX7_read_X7_isTokenNumber : GoodIn wsX7_read wsX7_isTokenNumber := goodIn_r _ [9] rfl (by decide +kernel)
set_option maxRecDepth 20000 in
theorem gX7_read_X7_isTokenNumber : GoodIn wsX7_read (va_wsS RX7 100 yX7_isTokenNumber wsX7_isTokenNumber) := goodIn_app (goodIn_of _ (by decide +kernel)) ggX7_read_X7_isTokenNumber
set_option maxRecDepth 20000 in
theorem ggX7_read_X5_readToken : GoodIn wsX7_read wsX5_readToken := goodIn_r _ [14, 15, 16, 17, 18, 19, 20, 21, 22, 23, 24, 25, 26, 13, 27, 28, 29, 30, 31, 32, 33, 34, 35, 36, 37, 38, 39, 40, 41, 42, 43, 44, 45, 46, 47, 48, 49, 50, 51, 52, 53, 54, 55, 56, 57, 58, 59, 60, 61, 62, 63, 64, 65, 66, 67, 68, 69, 102, 103, 104, 105, 106, 107, 108, 109, 110, 111, 112, 113, 114] rfl (by decide +kernel)
set_option maxRecDepth 20000 in
theorem gX7_read_X5_readToken : GoodIn wsX7_read (wsV RX7 206 RX5 yX5_readToken wsX5_readToken) := goodIn_app (goodIn_of _ (by decide +kernel)) ggX7_read_X5_readToken
set_option maxRecDepth 20000 in
theorem ggX7_read_X6_takeOver : GoodIn wsX7_read wsX6_takeOver := goodIn_r _ [74, 75, 76, 77, 78, 79, 80, 81, 82, 31, 83, 33, 84, 52, 53, 54, 42, 55, 56, 57, 58, 85, 86, 87, 88, 89, 90, 91, 92, 106, 107, 108, 109, 110, 111, 112, 113, 114] rfl (by decide +kernel)
set_option maxRecDepth 20000 in
theorem gX7_read_X6_takeOver : GoodIn wsX7_read (wsV RX7 156 RX6 yX6_takeOver wsX6_takeOver) := goodIn_app (goodIn_of _ (by decide +kernel)) ggX7_read_X6_takeOver
theorem dX7_read_0 : decode cX7_read 0 = .ok (.iload_n 1, 1) := by decide +kernel
theorem dX7_read_1 : decode cX7_read 1 = .ok (.invokestatic 100, 3) := by decide +kernel
theorem dX7_read_4 : decode cX7_read 4 = .ok (.ifCond .ne 6, 3) := by decide +kernel
theorem dX7_read_7 : decode cX7_read 7 = .ok (.bipush (-2), 2) := by decide +kernel
theorem dX7_read_9 : decode cX7_read 9 = .ok (.ireturn, 1) := by decide +kernel
theorem dX7_read_10 : decode cX7_read 10 = .ok (.aload_n 0, 1) := by decide +kernel
theorem dX7_read_11 : decode cX7_read 11 = .ok (.getfield 25, 3) := by decide +kernel
theorem dX7_read_14 : decode cX7_read 14 = .ok (.aload_n 0, 1) := by decide +kernel
theorem dX7_read_15 : decode cX7_read 15 = .ok (.getfield 32, 3) := by decide +kernel
theorem dX7_read_18 : decode cX7_read 18 = .ok (.invokevirtual 206, 3) := by decide +kernel
theorem dX7_read_21 : decode cX7_read 21 = .ok (.ifCond .ne 14, 3) := by decide +kernel
theorem dX7_read_24 : decode cX7_read 24 = .ok (.bipush (-10), 2) := by decide +kernel
theorem dX7_read_26 : decode cX7_read 26 = .ok (.aload_n 0, 1) := by decide +kernel
theorem dX7_read_27 : decode cX7_read 27 = .ok (.getfield 25, 3) := by decide +kernel
theorem dX7_read_30 : decode cX7_read 30 = .ok (.getfield 210, 3) := by decide +kernel
theorem dX7_read_33 : decode cX7_read 33 = .ok (.isub, 1) := by decide +kernel
theorem dX7_read_34 : decode cX7_read 34 = .ok (.ireturn, 1) := by decide +kernel
theorem dX7_read_35 : decode cX7_read 35 = .ok (.aload_n 0, 1) := by decide +kernel
theorem dX7_read_36 : decode cX7_read 36 = .ok (.getfield 40, 3) := by decide +kernel
theorem dX7_read_39 : decode cX7_read 39 = .ok (.iload_n 1, 1) := by decide +kernel
theorem dX7_read_40 : decode cX7_read 40 = .ok (.aaload, 1) := by decide +kernel
theorem dX7_read_41 : decode cX7_read 41 = .ok (.aload_n 0, 1) := by decide +kernel
theorem dX7_read_42 : decode cX7_read 42 = .ok (.getfield 32, 3) := by decide +kernel
theorem dX7_read_45 : decode cX7_read 45 = .ok (.invokevirtual 156, 3) := by decide +kernel
theorem dX7_read_48 : decode cX7_read 48 = .ok (.aload_n 0, 1) := by decide +kernel
theorem dX7_read_49 : decode cX7_read 49 = .ok (.getfield 40, 3) := by decide +kernel
theorem dX7_read_52 : decode cX7_read 52 = .ok (.iload_n 1, 1) := by decide +kernel
theorem dX7_read_53 : decode cX7_read 53 = .ok (.aaload, 1) := by decide +kernel
theorem dX7_read_54 : decode cX7_read 54 = .ok (.getfield 110, 3) := by decide +kernel
theorem dX7_read_57 : decode cX7_read 57 = .ok (.ireturn, 1) := by decide +kernel
theorem dX7_place_0 : decode cX7_place 0 = .ok (.aload_n 0, 1) := by decide +kernel
theorem dX7_place_1 : decode cX7_place 1 = .ok (.getfield 25, 3) := by decide +kernel
theorem dX7_place_4 : decode cX7_place 4 = .ok (.getfield 211, 3) := by decide +kernel
theorem dX7_place_7 : decode cX7_place 7 = .ok (.ireturn, 1) := by decide +kernel
theorem dX7_isRegister_0 : decode cX7_isRegister 0 = .ok (.iload_n 0, 1) := by decide +kernel
theorem dX7_isRegister_1 : decode cX7_isRegister 1 = .ok (.ifCond .lt 13, 3) := by decide +kernel
theorem dX7_isRegister_4 : decode cX7_isRegister 4 = .ok (.iload_n 0, 1) := by decide +kernel
theorem dX7_isRegister_5 : decode cX7_isRegister 5 = .ok (.bipush 8, 2) := by decide +kernel
theorem dX7_isRegister_7 : decode cX7_isRegister 7 = .ok (.if_icmp .ge 7, 3) := by decide +kernel
theorem dX7_isRegister_10 : decode cX7_isRegister 10 = .ok (.iconst 1, 1) := by decide +kernel
theorem dX7_isRegister_11 : decode cX7_isRegister 11 = .ok (.goto 4, 3) := by decide +kernel
theorem dX7_isRegister_14 : decode cX7_isRegister 14 = .ok (.iconst 0, 1) := by decide +kernel
theorem dX7_isRegister_15 : decode cX7_isRegister 15 = .ok (.ireturn, 1) := by decide +kernel
theorem dX7_isTokenNumber_0 : decode cX7_isTokenNumber 0 = .ok (.iload_n 0, 1) := by decide +kernel
theorem dX7_isTokenNumber_1 : decode cX7_isTokenNumber 1 = .ok (.ifCond .lt 13, 3) := by decide +kernel
theorem dX7_isTokenNumber_4 : decode cX7_isTokenNumber 4 = .ok (.iload_n 0, 1) := by decide +kernel
theorem dX7_isTokenNumber_5 : decode cX7_isTokenNumber 5 = .ok (.bipush 8, 2) := by decide +kernel
theorem dX7_isTokenNumber_7 : decode cX7_isTokenNumber 7 = .ok (.if_icmp .ge 7, 3) := by decide +kernel
theorem dX7_isTokenNumber_10 : decode cX7_isTokenNumber 10 = .ok (.iconst 1, 1) := by decide +kernel
theorem dX7_isTokenNumber_11 : decode cX7_isTokenNumber 11 = .ok (.goto 4, 3) := by decide +kernel
theorem dX7_isTokenNumber_14 : decode cX7_isTokenNumber 14 = .ok (.iconst 0, 1) := by decide +kernel
theorem dX7_isTokenNumber_15 : decode cX7_isTokenNumber 15 = .ok (.ireturn, 1) := by decide +kernel
theorem dX7_isWidth_0 : decode cX7_isWidth 0 = .ok (.iload_n 0, 1) := by decide +kernel
theorem dX7_isWidth_1 : decode cX7_isWidth 1 = .ok (.iconst 1, 1) := by decide +kernel
theorem dX7_isWidth_2 : decode cX7_isWidth 2 = .ok (.if_icmp .lt 13, 3) := by decide +kernel
theorem dX7_isWidth_5 : decode cX7_isWidth 5 = .ok (.iload_n 0, 1) := by decide +kernel
theorem dX7_isWidth_6 : decode cX7_isWidth 6 = .ok (.bipush 8, 2) := by decide +kernel
theorem dX7_isWidth_8 : decode cX7_isWidth 8 = .ok (.if_icmp .gt 7, 3) := by decide +kernel
theorem dX7_isWidth_11 : decode cX7_isWidth 11 = .ok (.iconst 1, 1) := by decide +kernel
theorem dX7_isWidth_12 : decode cX7_isWidth 12 = .ok (.goto 4, 3) := by decide +kernel
theorem dX7_isWidth_15 : decode cX7_isWidth 15 = .ok (.iconst 0, 1) := by decide +kernel
theorem dX7_isWidth_16 : decode cX7_isWidth 16 = .ok (.ireturn, 1) := by decide +kernel
theorem dX7_isByte_0 : decode cX7_isByte 0 = .ok (.iload_n 0, 1) := by decide +kernel
end
section
theorem dX7_isByte_1 : decode cX7_isByte 1 = .ok (.ifCond .lt 14, 3) := by decide +kernel
theorem dX7_isByte_4 : decode cX7_isByte 4 = .ok (.iload_n 0, 1) := by decide +kernel
theorem dX7_isByte_5 : decode cX7_isByte 5 = .ok (.sipush 255, 3) := by decide +kernel
theorem dX7_isByte_8 : decode cX7_isByte 8 = .ok (.if_icmp .gt 7, 3) := by decide +kernel
theorem dX7_isByte_11 : decode cX7_isByte 11 = .ok (.iconst 1, 1) := by decide +kernel
theorem dX7_isByte_12 : decode cX7_isByte 12 = .ok (.goto 4, 3) := by decide +kernel
theorem dX7_isByte_15 : decode cX7_isByte 15 = .ok (.iconst 0, 1) := by decide +kernel
theorem dX7_isByte_16 : decode cX7_isByte 16 = .ok (.ireturn, 1) := by decide +kernel
theorem dX7_isWordingLength_0 : decode cX7_isWordingLength 0 = .ok (.iload_n 0, 1) := by decide +kernel
theorem dX7_isWordingLength_1 : decode cX7_isWordingLength 1 = .ok (.iconst 1, 1) := by decide +kernel
theorem dX7_isWordingLength_2 : decode cX7_isWordingLength 2 = .ok (.if_icmp .lt 13, 3) := by decide +kernel
theorem dX7_isWordingLength_5 : decode cX7_isWordingLength 5 = .ok (.iload_n 0, 1) := by decide +kernel
theorem dX7_isWordingLength_6 : decode cX7_isWordingLength 6 = .ok (.bipush 60, 2) := by decide +kernel
theorem dX7_isWordingLength_8 : decode cX7_isWordingLength 8 = .ok (.if_icmp .gt 7, 3) := by decide +kernel
theorem dX7_isWordingLength_11 : decode cX7_isWordingLength 11 = .ok (.iconst 1, 1) := by decide +kernel
theorem dX7_isWordingLength_12 : decode cX7_isWordingLength 12 = .ok (.goto 4, 3) := by decide +kernel
theorem dX7_isWordingLength_15 : decode cX7_isWordingLength 15 = .ok (.iconst 0, 1) := by decide +kernel
theorem dX7_isWordingLength_16 : decode cX7_isWordingLength 16 = .ok (.ireturn, 1) := by decide +kernel
set_option maxRecDepth 20000 in
theorem ggX7_isThere_X7_isTokenNumber : GoodIn wsX7_isThere wsX7_isTokenNumber := goodIn_r _ [6] rfl (by decide +kernel)
set_option maxRecDepth 20000 in
theorem gX7_isThere_X7_isTokenNumber : GoodIn wsX7_isThere (va_wsS RX7 100 yX7_isTokenNumber wsX7_isTokenNumber) := goodIn_app (goodIn_of _ (by decide +kernel)) ggX7_isThere_X7_isTokenNumber
theorem dX7_isThere_0 : decode cX7_isThere 0 = .ok (.iload_n 1, 1) := by decide +kernel
theorem dX7_isThere_1 : decode cX7_isThere 1 = .ok (.invokestatic 100, 3) := by decide +kernel
theorem dX7_isThere_4 : decode cX7_isThere 4 = .ok (.ifCond .eq 19, 3) := by decide +kernel
theorem dX7_isThere_7 : decode cX7_isThere 7 = .ok (.aload_n 0, 1) := by decide +kernel
theorem dX7_isThere_8 : decode cX7_isThere 8 = .ok (.getfield 40, 3) := by decide +kernel
theorem dX7_isThere_11 : decode cX7_isThere 11 = .ok (.iload_n 1, 1) := by decide +kernel
theorem dX7_isThere_12 : decode cX7_isThere 12 = .ok (.aaload, 1) := by decide +kernel
theorem dX7_isThere_13 : decode cX7_isThere 13 = .ok (.getfield 106, 3) := by decide +kernel
theorem dX7_isThere_16 : decode cX7_isThere 16 = .ok (.ifCond .eq 7, 3) := by decide +kernel
theorem dX7_isThere_19 : decode cX7_isThere 19 = .ok (.iconst 1, 1) := by decide +kernel
theorem dX7_isThere_20 : decode cX7_isThere 20 = .ok (.goto 4, 3) := by decide +kernel
theorem dX7_isThere_23 : decode cX7_isThere 23 = .ok (.iconst 0, 1) := by decide +kernel
theorem dX7_isThere_24 : decode cX7_isThere 24 = .ok (.ireturn, 1) := by decide +kernel
theorem dX7_areThere_0 : decode cX7_areThere 0 = .ok (.iload_n 1, 1) := by decide +kernel
theorem dX7_areThere_1 : decode cX7_areThere 1 = .ok (.ifCond .lt 10, 3) := by decide +kernel
theorem dX7_areThere_4 : decode cX7_areThere 4 = .ok (.iload_n 1, 1) := by decide +kernel
theorem dX7_areThere_5 : decode cX7_areThere 5 = .ok (.sipush 256, 3) := by decide +kernel
theorem dX7_areThere_8 : decode cX7_areThere 8 = .ok (.if_icmp .lt 5, 3) := by decide +kernel
theorem dX7_areThere_11 : decode cX7_areThere 11 = .ok (.iconst 0, 1) := by decide +kernel
theorem dX7_areThere_12 : decode cX7_areThere 12 = .ok (.ireturn, 1) := by decide +kernel
theorem dX7_areThere_13 : decode cX7_areThere 13 = .ok (.iconst 0, 1) := by decide +kernel
theorem dX7_areThere_14 : decode cX7_areThere 14 = .ok (.istore_n 2, 1) := by decide +kernel
theorem dX7_areThere_15 : decode cX7_areThere 15 = .ok (.iload_n 2, 1) := by decide +kernel
theorem dX7_areThere_16 : decode cX7_areThere 16 = .ok (.bipush 8, 2) := by decide +kernel
theorem dX7_areThere_18 : decode cX7_areThere 18 = .ok (.if_icmp .ge 32, 3) := by decide +kernel
theorem dX7_areThere_21 : decode cX7_areThere 21 = .ok (.iload_n 1, 1) := by decide +kernel
theorem dX7_areThere_22 : decode cX7_areThere 22 = .ok (.iload_n 2, 1) := by decide +kernel
theorem dX7_areThere_23 : decode cX7_areThere 23 = .ok (.ishr, 1) := by decide +kernel
theorem dX7_areThere_24 : decode cX7_areThere 24 = .ok (.iconst 1, 1) := by decide +kernel
theorem dX7_areThere_25 : decode cX7_areThere 25 = .ok (.iand, 1) := by decide +kernel
theorem dX7_areThere_26 : decode cX7_areThere 26 = .ok (.iconst 1, 1) := by decide +kernel
theorem dX7_areThere_27 : decode cX7_areThere 27 = .ok (.if_icmp .ne 17, 3) := by decide +kernel
theorem dX7_areThere_30 : decode cX7_areThere 30 = .ok (.aload_n 0, 1) := by decide +kernel
theorem dX7_areThere_31 : decode cX7_areThere 31 = .ok (.getfield 40, 3) := by decide +kernel
theorem dX7_areThere_34 : decode cX7_areThere 34 = .ok (.iload_n 2, 1) := by decide +kernel
theorem dX7_areThere_35 : decode cX7_areThere 35 = .ok (.aaload, 1) := by decide +kernel
theorem dX7_areThere_36 : decode cX7_areThere 36 = .ok (.getfield 106, 3) := by decide +kernel
theorem dX7_areThere_39 : decode cX7_areThere 39 = .ok (.ifCond .ne 5, 3) := by decide +kernel
theorem dX7_areThere_42 : decode cX7_areThere 42 = .ok (.iconst 0, 1) := by decide +kernel
theorem dX7_areThere_43 : decode cX7_areThere 43 = .ok (.ireturn, 1) := by decide +kernel
theorem dX7_areThere_44 : decode cX7_areThere 44 = .ok (.iinc 2 1, 3) := by decide +kernel
theorem dX7_areThere_47 : decode cX7_areThere 47 = .ok (.goto (-32), 3) := by decide +kernel
theorem dX7_areThere_50 : decode cX7_areThere 50 = .ok (.iconst 1, 1) := by decide +kernel
theorem dX7_areThere_51 : decode cX7_areThere 51 = .ok (.ireturn, 1) := by decide +kernel
set_option maxRecDepth 20000 in
theorem ggX7_pushLowest_X3_hasRoomFor : GoodIn wsX7_pushLowest wsX3_hasRoomFor := goodIn_r _ [6, 7, 8, 13, 14] rfl (by decide +kernel)
set_option maxRecDepth 20000 in
theorem gX7_pushLowest_X3_hasRoomFor : GoodIn wsX7_pushLowest (wsV RX7 214 RX3 yX3_hasRoomFor wsX3_hasRoomFor) := goodIn_app (goodIn_of _ (by decide +kernel)) ggX7_pushLowest_X3_hasRoomFor
set_option maxRecDepth 20000 in
theorem ggX7_pushLowest_X3_push : GoodIn wsX7_pushLowest wsX3_push := goodIn_r _ [12, 8, 7, 13, 14] rfl (by decide +kernel)
set_option maxRecDepth 20000 in
theorem gX7_pushLowest_X3_push : GoodIn wsX7_pushLowest (wsV RX7 217 RX3 yX3_push wsX3_push) := goodIn_app (goodIn_of _ (by decide +kernel)) ggX7_pushLowest_X3_push
theorem dX7_pushLowest_0 : decode cX7_pushLowest 0 = .ok (.aload_n 0, 1) := by decide +kernel
theorem dX7_pushLowest_1 : decode cX7_pushLowest 1 = .ok (.iload_n 1, 1) := by decide +kernel
theorem dX7_pushLowest_2 : decode cX7_pushLowest 2 = .ok (.invokevirtual 214, 3) := by decide +kernel
theorem dX7_pushLowest_5 : decode cX7_pushLowest 5 = .ok (.ifCond .ne 6, 3) := by decide +kernel
theorem dX7_pushLowest_8 : decode cX7_pushLowest 8 = .ok (.bipush (-3), 2) := by decide +kernel
theorem dX7_pushLowest_10 : decode cX7_pushLowest 10 = .ok (.ireturn, 1) := by decide +kernel
theorem dX7_pushLowest_11 : decode cX7_pushLowest 11 = .ok (.iconst 0, 1) := by decide +kernel
theorem dX7_pushLowest_12 : decode cX7_pushLowest 12 = .ok (.istore 4, 2) := by decide +kernel
theorem dX7_pushLowest_14 : decode cX7_pushLowest 14 = .ok (.iload 4, 2) := by decide +kernel
theorem dX7_pushLowest_16 : decode cX7_pushLowest 16 = .ok (.iload_n 1, 1) := by decide +kernel
theorem dX7_pushLowest_17 : decode cX7_pushLowest 17 = .ok (.if_icmp .ge 25, 3) := by decide +kernel
theorem dX7_pushLowest_20 : decode cX7_pushLowest 20 = .ok (.aload_n 0, 1) := by decide +kernel
theorem dX7_pushLowest_21 : decode cX7_pushLowest 21 = .ok (.lload_n 2, 1) := by decide +kernel
theorem dX7_pushLowest_22 : decode cX7_pushLowest 22 = .ok (.bipush 8, 2) := by decide +kernel
theorem dX7_pushLowest_24 : decode cX7_pushLowest 24 = .ok (.iload 4, 2) := by decide +kernel
theorem dX7_pushLowest_26 : decode cX7_pushLowest 26 = .ok (.imul, 1) := by decide +kernel
theorem dX7_pushLowest_27 : decode cX7_pushLowest 27 = .ok (.lushr, 1) := by decide +kernel
theorem dX7_pushLowest_28 : decode cX7_pushLowest 28 = .ok (.l2i, 1) := by decide +kernel
theorem dX7_pushLowest_29 : decode cX7_pushLowest 29 = .ok (.sipush 255, 3) := by decide +kernel
theorem dX7_pushLowest_32 : decode cX7_pushLowest 32 = .ok (.iand, 1) := by decide +kernel
theorem dX7_pushLowest_33 : decode cX7_pushLowest 33 = .ok (.invokevirtual 217, 3) := by decide +kernel
theorem dX7_pushLowest_36 : decode cX7_pushLowest 36 = .ok (.iinc 4 1, 3) := by decide +kernel
theorem dX7_pushLowest_39 : decode cX7_pushLowest 39 = .ok (.goto (-25), 3) := by decide +kernel
theorem dX7_pushLowest_42 : decode cX7_pushLowest 42 = .ok (.aload_n 0, 1) := by decide +kernel
theorem dX7_pushLowest_43 : decode cX7_pushLowest 43 = .ok (.getfield 79, 3) := by decide +kernel
theorem dX7_pushLowest_46 : decode cX7_pushLowest 46 = .ok (.ireturn, 1) := by decide +kernel
end
section
/-! WHEN A TEXT IS TRUE, by places of its bytes -/
def b2i (b : Bool) : Int32 := if b then 1 else 0
def Bt (l : List Int32) (p : Nat) : Int32 := if p < l.length then l.getD p 0 else -1
theorem Bt_eq {l : List Int32} {p : Nat} (h : p < 2 ^ 31) (hl : l.length < 2 ^ 31) : bAt l (nI p) = Bt l p := by
  unfold Bt
  by_cases hp : p < l.length
  · rw [if_pos hp, bAt_in rfl hp hl]
  · rw [if_neg hp, bAt_big (nI_le (by omega) h)]
def isDg (c : Int32) : Bool := decide (¬ c - 48 < 0) && decide (c - 48 ≤ 9)
def dN (c : Int32) : Nat := (c - 48).toNatClampNeg
theorem dN_le {c : Int32} (h : isDg c = true) : dN c ≤ 9 ∧ c - 48 = nI (dN c) := by
  simp [isDg] at h
  obtain ⟨j, hj, e⟩ := nI_of2 (M := 9) (n := 9) (by decide) (by grind) h.2
  unfold dN
  rw [e, nI_clamp (by omega)]
  exact ⟨hj, rfl⟩
/-- how many digits stand at p, k at most -/
def nd (l : List Int32) : Nat → Nat → Nat
  | 0, _ => 0
  | k + 1, p => if isDg (Bt l p) then nd l k (p + 1) + 1 else 0
theorem nd_le (l : List Int32) : ∀ k p, nd l k p ≤ k := by
  intro k
  induction k with
  | zero => intro p; exact Nat.le_refl _
  | succ k ih => intro p; simp only [nd]; split
                 · have := ih (p + 1); omega
                 · omega
/-- the number that j digits from p make -/
def nvS (l : List Int32) (p : Nat) : Nat → Nat
  | 0 => 0
  | j + 1 => 10 * nvS l p j + dN (Bt l (p + j))
def isKd (k : Int32) : Bool := k == 60 || k == 61 || k == 62 || k == 35
def hold (a k n : Int32) : Bool := if k = 60 then decide (a < n) else if k = 61 then decide (a = n) else if k = 62 then decide (n < a) else if n = 0 then decide (a = 0) else decide (a - a / n * n = 0)
/-- where a test's letter stands, and the test: whether it holds, and where it ends -/
def p1 (l : List Int32) (p : Nat) : Nat := if Bt l p = 33 then p + 1 else p
def tst (q : Nat → Int32) (l : List Int32) (p : Nat) : Option (Bool × Nat) :=
  if 0 ≤ Bt l (p1 l p) - 97 ∧ Bt l (p1 l p) - 97 < 8 ∧ isKd (Bt l (p1 l p + 1)) = true ∧ nd l 6 (p1 l p + 2) ≠ 0 then some (hold (q (Bt l (p1 l p) - 97).toNatClampNeg) (Bt l (p1 l p + 1)) (nI (nvS l (p1 l p + 2) (nd l 6 (p1 l p + 2)))) != decide (Bt l p = 33), p1 l p + 2 + nd l 6 (p1 l p + 2)) else none
def txt (q : Nat → Int32) (l : List Int32) : Nat → Nat → Bool → Bool → Int32
  | 0, _, _, _ => -1
  | f + 1, p, one, all => match tst q l p with
    | none => -1
    | some (r, p') => if Bt l p' = 38 then txt q l f (p' + 1) one (all && r) else if Bt l p' = -1 then b2i (one || (all && r)) else if Bt l p' = 124 then txt q l f (p' + 1) (one || (all && r)) true else -1
def truth (q : Nat → Int32) (l : List Int32) : Int32 := txt q l (l.length + 1) 0 false true
theorem tst_le {q : Nat → Int32} {l : List Int32} {p p' : Nat} {r : Bool} (h : tst q l p = some (r, p')) : p + 3 ≤ p' ∧ p' ≤ p + 9 := by
  unfold tst at h
  split at h
  · rename_i hc
    have h1 : p1 l p + 2 + nd l 6 (p1 l p + 2) = p' := by simp at h; exact h.2
    have h2 := nd_le l 6 (p1 l p + 2)
    have h3 : p ≤ p1 l p ∧ p1 l p ≤ p + 1 := by unfold p1; split <;> omega
    omega
  · cases h
theorem b2i_t : b2i true = 1 := rfl
theorem b2i_f : b2i false = 0 := rfl
theorem b2i_eq0 {b : Bool} (h : b2i b = 0) : b = false := by cases b <;> simp [b2i] at h ⊢
theorem b2i_ne0 {b : Bool} (h : ¬ b2i b = 0) : b = true := by cases b <;> simp [b2i] at h ⊢
theorem sw3 {x : Int32} {a : Int32} (h0 : ¬ x = 60) (h1 : ¬ x = 61) (h2 : ¬ x = 62) : x.toInt < 60 ∨ 62 < x.toInt := by
  by_cases q : x.toInt < 60
  · exact Or.inl q
  · by_cases q2 : 62 < x.toInt
    · exact Or.inr q2
    · exfalso
      rcases (show x.toInt = 60 ∨ x.toInt = 61 ∨ x.toInt = 62 by omega) with e | e | e
      · exact h0 (Int32.toInt_inj.mp (by rw [e]; rfl))
      · exact h1 (Int32.toInt_inj.mp (by rw [e]; rfl))
      · exact h2 (Int32.toInt_inj.mp (by rw [e]; rfl))
/-- the numbers of a walk through digits -/
theorem num_s {l : List Int32} {p j : Nat} {x y : Int32} (hx : x = nI (nvS l p j)) (hb : nvS l p j < 10 ^ j) (hj : j < 6) (hd : isDg (Bt l (p + j)) = true) (e : y = x * 10 + (Bt l (p + j) - 48)) : y = nI (nvS l p (j + 1)) ∧ nvS l p (j + 1) < 10 ^ (j + 1) := by
  obtain ⟨h1, h2⟩ := dN_le hd
  refine ⟨?_, ?_⟩
  · rw [e, hx, h2, show (10 : Int32) = nI 10 from rfl, pk_mul, nI_add]
    show nI _ = nI (10 * nvS l p j + dN (Bt l (p + j)))
    rw [Nat.mul_comm]
  · show 10 * nvS l p j + dN (Bt l (p + j)) < 10 ^ (j + 1)
    rw [Nat.pow_succ]; omega
theorem nd_dg (l : List Int32) : ∀ k p i, i < nd l k p → isDg (Bt l (p + i)) = true := by
  intro k
  induction k with
  | zero => intro p i h; exact absurd h (Nat.not_lt_zero _)
  | succ k ih =>
    intro p i h
    simp only [nd] at h
    split at h
    · rename_i hd
      cases i with
      | zero => exact hd
      | succ i =>
        have := ih (p + 1) i (by omega)
        rw [show p + (i + 1) = p + 1 + i by omega]; exact this
    · omega
theorem nvS_lt (l : List Int32) (p : Nat) : ∀ d, (∀ i, i < d → isDg (Bt l (p + i)) = true) → nvS l p d < 10 ^ d := by
  intro d
  induction d with
  | zero => intro _; exact Nat.one_pos
  | succ d ih =>
    intro h
    have h1 := ih (fun i hi => h i (by omega))
    have h2 := (dN_le (h d (by omega))).1
    show 10 * nvS l p d + dN (Bt l (p + d)) < 10 ^ (d + 1)
    rw [Nat.pow_succ]; omega
theorem nvS_6 (l : List Int32) (p : Nat) : nvS l p (nd l 6 p) < 1000000 := by
  have h := nvS_lt l p (nd l 6 p) (nd_dg l 6 p)
  have h2 : 10 ^ nd l 6 p ≤ 10 ^ 6 := Nat.pow_le_pow_right (by omega) (nd_le l 6 p)
  omega
theorem nI_n1 {m : Nat} (h : m < 2 ^ 31) : ¬ nI m = -1 := fun e => nI_pos h (by rw [e]; decide)
theorem num_no {l : List Int32} {p : Nat} {x : Int32} (e : x = (if nd l 6 p = 0 then -1 else nI (nvS l p (nd l 6 p)))) : x = -1 ↔ nd l 6 p = 0 := by
  have hb := nvS_6 l p
  by_cases h : nd l 6 p = 0
  · rw [if_pos h] at e; exact ⟨fun _ => h, fun _ => e⟩
  · rw [if_neg h] at e; exact ⟨fun q => absurd (e.symm.trans q) (nI_n1 (by omega)), fun q => absurd q h⟩
theorem tst_no {q : Nat → Int32} {l : List Int32} {p : Nat} {c kd x : Int32} (ec : c = Bt l (p1 l p) - 97) (ek : kd = Bt l (p1 l p + 1)) (ex : x = (if nd l 6 (p1 l p + 2) = 0 then -1 else nI (nvS l (p1 l p + 2) (nd l 6 (p1 l p + 2))))) (h : c < 0 ∨ 8 ≤ c ∨ b2i (isKd kd) = 0 ∨ x = -1) : tst q l p = none := by
  unfold tst
  rw [if_neg]
  rintro ⟨t1, t2, t3, t4⟩
  rw [← ec] at t1 t2
  rw [← ek] at t3
  rcases h with h | h | h | h
  · exact absurd h (Int32.not_lt.mpr t1)
  · exact absurd h (Int32.not_le.mpr t2)
  · rw [t3] at h; exact absurd h (by decide)
  · exact t4 ((num_no ex).mp h)
theorem tst_yes {q : Nat → Int32} {l : List Int32} {p : Nat} {c kd x : Int32} (ec : c = Bt l (p1 l p) - 97) (ek : kd = Bt l (p1 l p + 1)) (ex : x = (if nd l 6 (p1 l p + 2) = 0 then -1 else nI (nvS l (p1 l p + 2) (nd l 6 (p1 l p + 2))))) (h1 : ¬ c < 0) (h2 : ¬ 8 ≤ c) (h3 : ¬ b2i (isKd kd) = 0) (h4 : ¬ x = -1) : tst q l p = some (hold (q c.toNatClampNeg) kd x != decide (Bt l p = 33), p1 l p + 2 + nd l 6 (p1 l p + 2)) := by
  have h5 : nd l 6 (p1 l p + 2) ≠ 0 := fun e => h4 ((num_no ex).mpr e)
  rw [if_neg h5] at ex
  unfold tst
  rw [if_pos ⟨by rw [← ec]; exact Int32.not_lt.mp h1, by rw [← ec]; exact Int32.not_le.mp h2, by rw [← ek]; exact b2i_ne0 h3, h5⟩, ← ec, ← ek, ← ex]
theorem ne_b2i {x y : Bool} : (b2i x = b2i y → b2i (x != y) = 0) ∧ (¬ b2i x = b2i y → b2i (x != y) = 1) := by
  cases x <;> cases y <;> simp [b2i]
/-- a step of a text -/
theorem txt_s {q : Nat → Int32} {l : List Int32} {f p p' : Nat} {one all r : Bool} (h : tst q l p = some (r, p')) : txt q l (f + 1) p one all = (if Bt l p' = 38 then txt q l f (p' + 1) one (all && r) else if Bt l p' = -1 then b2i (one || (all && r)) else if Bt l p' = 124 then txt q l f (p' + 1) (one || (all && r)) true else -1) := by
  simp only [txt, h]
theorem txt_n {q : Nat → Int32} {l : List Int32} {f p : Nat} {one all : Bool} (h : tst q l p = none) : txt q l (f + 1) p one all = -1 := by
  simp only [txt, h]
theorem b2i_and {a b : Bool} {x y : Int32} (hx : x = b2i a) (hy : y = b2i b) : (x = 0 → b2i (a && b) = 0) ∧ (¬ x = 0 → ¬ y = 1 → b2i (a && b) = 0) ∧ (¬ x = 0 → y = 1 → b2i (a && b) = 1) := by
  subst hx; subst hy
  cases a <;> cases b <;> simp [b2i]
theorem b2i_or {a b : Bool} {x y : Int32} (hx : x = b2i a) (hy : y = b2i b) : (¬ x = 0 → b2i (a || b) = 1) ∧ (x = 0 → ¬ y = 0 → b2i (a || b) = 1) ∧ (x = 0 → y = 0 → b2i (a || b) = 0) := by
  subst hx; subst hy
  cases a <;> cases b <;> simp [b2i]
end
section
set_option maxHeartbeats 4000000 in
set_option maxRecDepth 100000 in
theorem c_X0_isKind (l : Launch) {E : En} {V : Vt} (kd : Int32) : CI l yX0_isKind wsX0_isKind 0 E V [.int kd] (fun r V' => r = b2i (isKd kd) ∧ V' = V) := by
  refine Met.ofW (cc := cX0_isKind) (maxL := 1) (ret := (some .boolean)) (by decide) rfl ?_
  intro p e s m args below meth c s₁ B hml hv
  obtain ⟨rfl, hM, hK⟩ := hv
  have hx := B.exec
  have hb := B.bytes
  have hret := B.returns
  have hts := atoms_spec (ws := wsX0_isKind) B.pre
  have hown : s.vm.findClass RX0 = some m.cls := findClass_of_methodNamed B.named
  have hlocks := B.notSynchronized
  have hsz : s.heap.size = E.1 + 610 := hM.1
  have hS : va_S (AE E) s.heap s.heap [] := va_S.rf
  have hl := lv_entry ([.int kd]) (n := 1) (Nat.le_of_ble_eq_true rfl)
  rw [lg_entry_eq]
  generalize (lg_sl ([.int kd]) ++ List.replicate (1 - (lg_sl ([.int kd])).length) Slot.unset).toArray = ls at hl ⊢
  have hl : lv_has ls 1 [(0, .int kd)] := hl
  refine lv_iload_n hx hb dX0_isKind_0 rfl (lv_at hl 0 rfl) ?_
  refine lv_bipush (v := 60) hx hb dX0_isKind_1 (by decide) ?_
  refine lv_icmp_eq (tgt := 24) hx hb dX0_isKind_3 (by decide) (fun c_3 => ?_) (fun c_3 => ?_)
  · refine lv_iconst (v := 1) hx hb dX0_isKind_24 (by decide) ?_
    refine lv_goto (tgt := 29) hx hb dX0_isKind_25 (by decide) ?_
    exact w_zret V hx hb hret hK hS hM (⟨by simp only [isKd, b2i]; grind, rfl⟩) (rfl) hlocks dX0_isKind_29
  · refine lv_iload_n hx hb dX0_isKind_6 rfl (lv_at hl 0 rfl) ?_
    refine lv_bipush (v := 61) hx hb dX0_isKind_7 (by decide) ?_
    refine lv_icmp_eq (tgt := 24) hx hb dX0_isKind_9 (by decide) (fun c_9 => ?_) (fun c_9 => ?_)
    · refine lv_iconst (v := 1) hx hb dX0_isKind_24 (by decide) ?_
      refine lv_goto (tgt := 29) hx hb dX0_isKind_25 (by decide) ?_
      exact w_zret V hx hb hret hK hS hM (⟨by simp only [isKd, b2i]; grind, rfl⟩) (rfl) hlocks dX0_isKind_29
    · refine lv_iload_n hx hb dX0_isKind_12 rfl (lv_at hl 0 rfl) ?_
      refine lv_bipush (v := 62) hx hb dX0_isKind_13 (by decide) ?_
      refine lv_icmp_eq (tgt := 24) hx hb dX0_isKind_15 (by decide) (fun c_15 => ?_) (fun c_15 => ?_)
      · refine lv_iconst (v := 1) hx hb dX0_isKind_24 (by decide) ?_
        refine lv_goto (tgt := 29) hx hb dX0_isKind_25 (by decide) ?_
        exact w_zret V hx hb hret hK hS hM (⟨by simp only [isKd, b2i]; grind, rfl⟩) (rfl) hlocks dX0_isKind_29
      · refine lv_iload_n hx hb dX0_isKind_18 rfl (lv_at hl 0 rfl) ?_
        refine lv_bipush (v := 35) hx hb dX0_isKind_19 (by decide) ?_
        refine lv_icmp_ne (tgt := 28) hx hb dX0_isKind_21 (by decide) (fun c_21 => ?_) (fun c_21 => ?_)
        · refine lv_iconst (v := 0) hx hb dX0_isKind_28 (by decide) ?_
          exact w_zret V hx hb hret hK hS hM (⟨by simp only [isKd, b2i]; grind, rfl⟩) (rfl) hlocks dX0_isKind_29
        · refine lv_iconst (v := 1) hx hb dX0_isKind_24 (by decide) ?_
          refine lv_goto (tgt := 29) hx hb dX0_isKind_25 (by decide) ?_
          exact w_zret V hx hb hret hK hS hM (⟨by simp only [isKd, b2i]; grind, rfl⟩) (rfl) hlocks dX0_isKind_29

set_option maxHeartbeats 4000000 in
set_option maxRecDepth 100000 in
theorem c_X0_holds (l : Launch) {E : En} {V : Vt} (a kd n : Int32) : CI l yX0_holds wsX0_holds 0 E V [.int a, .int kd, .int n] (fun r V' => r = b2i (hold a kd n) ∧ V' = V) := by
  refine Met.ofW (cc := cX0_holds) (maxL := 3) (ret := (some .boolean)) (by decide) rfl ?_
  intro p e s m args below meth c s₁ B hml hv
  obtain ⟨rfl, hM, hK⟩ := hv
  have hx := B.exec
  have hb := B.bytes
  have hret := B.returns
  have hts := atoms_spec (ws := wsX0_holds) B.pre
  have hown : s.vm.findClass RX0 = some m.cls := findClass_of_methodNamed B.named
  have hlocks := B.notSynchronized
  have hsz : s.heap.size = E.1 + 610 := hM.1
  have hS : va_S (AE E) s.heap s.heap [] := va_S.rf
  have hl := lv_entry ([.int a, .int kd, .int n]) (n := 3) (Nat.le_of_ble_eq_true rfl)
  rw [lg_entry_eq]
  generalize (lg_sl ([.int a, .int kd, .int n]) ++ List.replicate (3 - (lg_sl ([.int a, .int kd, .int n])).length) Slot.unset).toArray = ls at hl ⊢
  have hl : lv_has ls 3 [(0, .int a), (1, .int kd), (2, .int n)] := hl
  refine lv_iload_n hx hb dX0_holds_0 rfl (lv_at hl 1 rfl) ?_
  by_cases sw_60 : kd = 60
  · refine lv_tableIn (x := kd) (off := 27) (tgt := 28) hx hb dX0_holds_1 (by rw [sw_60]; decide) (by rw [sw_60]; decide) (by rw [sw_60]; rfl) (by decide) ?_
    refine lv_iload_n hx hb dX0_holds_28 rfl (lv_at hl 0 rfl) ?_
    refine lv_iload_n hx hb dX0_holds_29 rfl (lv_at hl 2 rfl) ?_
    refine lv_icmp_ge (tgt := 37) hx hb dX0_holds_30 (by decide) (fun c_30 => ?_) (fun c_30 => ?_)
    · refine lv_iconst (v := 0) hx hb dX0_holds_37 (by decide) ?_
      exact w_zret V hx hb hret hK hS hM (⟨by simp only [hold, b2i]; grind, rfl⟩) (rfl) hlocks dX0_holds_38
    · refine lv_iconst (v := 1) hx hb dX0_holds_33 (by decide) ?_
      refine lv_goto (tgt := 38) hx hb dX0_holds_34 (by decide) ?_
      exact w_zret V hx hb hret hK hS hM (⟨by simp only [hold, b2i]; grind, rfl⟩) (rfl) hlocks dX0_holds_38
  by_cases sw_61 : kd = 61
  · refine lv_tableIn (x := kd) (off := 38) (tgt := 39) hx hb dX0_holds_1 (by rw [sw_61]; decide) (by rw [sw_61]; decide) (by rw [sw_61]; rfl) (by decide) ?_
    refine lv_iload_n hx hb dX0_holds_39 rfl (lv_at hl 0 rfl) ?_
    refine lv_iload_n hx hb dX0_holds_40 rfl (lv_at hl 2 rfl) ?_
    refine lv_icmp_ne (tgt := 48) hx hb dX0_holds_41 (by decide) (fun c_41 => ?_) (fun c_41 => ?_)
    · refine lv_iconst (v := 0) hx hb dX0_holds_48 (by decide) ?_
      exact w_zret V hx hb hret hK hS hM (⟨by simp only [hold, b2i]; grind, rfl⟩) (rfl) hlocks dX0_holds_49
    · refine lv_iconst (v := 1) hx hb dX0_holds_44 (by decide) ?_
      refine lv_goto (tgt := 49) hx hb dX0_holds_45 (by decide) ?_
      exact w_zret V hx hb hret hK hS hM (⟨by simp only [hold, b2i]; grind, rfl⟩) (rfl) hlocks dX0_holds_49
  by_cases sw_62 : kd = 62
  · refine lv_tableIn (x := kd) (off := 49) (tgt := 50) hx hb dX0_holds_1 (by rw [sw_62]; decide) (by rw [sw_62]; decide) (by rw [sw_62]; rfl) (by decide) ?_
    refine lv_iload_n hx hb dX0_holds_50 rfl (lv_at hl 0 rfl) ?_
    refine lv_iload_n hx hb dX0_holds_51 rfl (lv_at hl 2 rfl) ?_
    refine lv_icmp_le (tgt := 59) hx hb dX0_holds_52 (by decide) (fun c_52 => ?_) (fun c_52 => ?_)
    · refine lv_iconst (v := 0) hx hb dX0_holds_59 (by decide) ?_
      exact w_zret V hx hb hret hK hS hM (⟨by simp only [hold, b2i]; grind, rfl⟩) (rfl) hlocks dX0_holds_60
    · refine lv_iconst (v := 1) hx hb dX0_holds_55 (by decide) ?_
      refine lv_goto (tgt := 60) hx hb dX0_holds_56 (by decide) ?_
      exact w_zret V hx hb hret hK hS hM (⟨by simp only [hold, b2i]; grind, rfl⟩) (rfl) hlocks dX0_holds_60
  refine lv_tableOut (x := kd) (tgt := 61) hx hb dX0_holds_1 (sw3 (a := kd) sw_60 sw_61 sw_62) (by decide) ?_
  refine lv_iload_n hx hb dX0_holds_61 rfl (lv_at hl 2 rfl) ?_
  refine lv_if_ne (tgt := 77) hx hb dX0_holds_62 (by decide) (fun c_62 => ?_) (fun c_62 => ?_)
  · refine lv_iload_n hx hb dX0_holds_77 rfl (lv_at hl 0 rfl) ?_
    refine lv_iload_n hx hb dX0_holds_78 rfl (lv_at hl 2 rfl) ?_
    refine lv_irem hx hb dX0_holds_79 (c_62) ?_
    refine lv_if_ne (tgt := 87) hx hb dX0_holds_80 (by decide) (fun c_80 => ?_) (fun c_80 => ?_)
    · refine lv_iconst (v := 0) hx hb dX0_holds_87 (by decide) ?_
      exact w_zret V hx hb hret hK hS hM (⟨by simp only [hold, b2i]; grind, rfl⟩) (rfl) hlocks dX0_holds_88
    · refine lv_iconst (v := 1) hx hb dX0_holds_83 (by decide) ?_
      refine lv_goto (tgt := 88) hx hb dX0_holds_84 (by decide) ?_
      exact w_zret V hx hb hret hK hS hM (⟨by simp only [hold, b2i]; grind, rfl⟩) (rfl) hlocks dX0_holds_88
  · refine lv_iload_n hx hb dX0_holds_65 rfl (lv_at hl 0 rfl) ?_
    refine lv_if_ne (tgt := 73) hx hb dX0_holds_66 (by decide) (fun c_66 => ?_) (fun c_66 => ?_)
    · refine lv_iconst (v := 0) hx hb dX0_holds_73 (by decide) ?_
      refine lv_goto (tgt := 88) hx hb dX0_holds_74 (by decide) ?_
      exact w_zret V hx hb hret hK hS hM (⟨by simp only [hold, b2i]; grind, rfl⟩) (rfl) hlocks dX0_holds_88
    · refine lv_iconst (v := 1) hx hb dX0_holds_69 (by decide) ?_
      refine lv_goto (tgt := 88) hx hb dX0_holds_70 (by decide) ?_
      exact w_zret V hx hb hret hK hS hM (⟨by simp only [hold, b2i]; grind, rfl⟩) (rfl) hlocks dX0_holds_88

set_option maxHeartbeats 4000000 in
set_option maxRecDepth 100000 in
theorem c_X0_takeNumber (l : Launch) {E : En} {V : Vt} {k cap : Nat} (hk : isRow k cap) {b : List Int32} (hr0 : rowIs V k b) (hbl : b.length ≤ cap) {p0 : Nat} (hp0 : V 21 1 = nI p0) (hpl : p0 < 100000) : CI l yX0_takeNumber wsX0_takeNumber 1 E V [.ref (E.1 + 21), .ref (E.1 + k)] (fun r V' => r = (if nd b 6 p0 = 0 then -1 else nI (nvS b p0 (nd b 6 p0))) ∧ V' 21 1 = nI (p0 + nd b 6 p0) ∧ ∀ j, j ≠ 21 → V' j = V j) := by
  refine Met.ofW (cc := cX0_takeNumber) (maxL := 5) (ret := (some .int)) (by decide) rfl ?_
  intro p e s m args below meth c s₁ B hml hv
  obtain ⟨rfl, hM, hK⟩ := hv
  have hx := B.exec
  have hb := B.bytes
  have hret := B.returns
  have hts := atoms_spec (ws := wsX0_takeNumber) B.pre
  have hown : s.vm.findClass RX0 = some m.cls := findClass_of_methodNamed B.named
  have hlocks := B.notSynchronized
  have hsz : s.heap.size = E.1 + 610 := hM.1
  have hS : va_S (AE E) s.heap s.heap [] := va_S.rf
  have in0 : ∀ w ∈ u_ws RX0 TX0 2, w ∈ wsX0_takeNumber := by decide +kernel
  have k15 := hts (.fieldLink RX0 15 "LimitTokens$Judge" "position" "I") (by decide +kernel)
  have hl := lv_entry ([.ref (E.1 + 21), .ref (E.1 + k)]) (n := 5) (Nat.le_of_ble_eq_true rfl)
  rw [lg_entry_eq]
  generalize (lg_sl ([.ref (E.1 + 21), .ref (E.1 + k)]) ++ List.replicate (5 - (lg_sl ([.ref (E.1 + 21), .ref (E.1 + k)])).length) Slot.unset).toArray = ls at hl ⊢
  have hl : lv_has ls 5 [(0, .ref (E.1 + 21)), (1, .ref (E.1 + k))] := hl
  have hcap := hk.cap
  have hwh := hk.where
  refine lv_iconst (v := (-1)) hx hb dX0_takeNumber_0 (by decide) ?_
  refine lv_istore_n (lv' := [(2, .int (-1)), (0, .ref (E.1 + 21)), (1, .ref (E.1 + k))]) hx hb dX0_takeNumber_1 rfl hl (by decide) rfl (fun ls hl => ?_)
  refine lv_iconst (v := 0) hx hb dX0_takeNumber_2 (by decide) ?_
  refine lv_istore_n (lv' := [(3, .int 0), (2, .int (-1)), (0, .ref (E.1 + 21)), (1, .ref (E.1 + k))]) hx hb dX0_takeNumber_3 rfl hl (by decide) rfl (fun ls hl => ?_)
  have loop4 : ∀ (fu : Nat) (Vw : Vt) (H : Heap) (locs : List Loc) (ls : Array Slot) (j : Nat) (x : Int32) (y : Int32) (ex : x = nI j) (hj : j ≤ 6) (hnd : nd b 6 p0 = nd b (6 - j) (p0 + j) + j) (hy : (j = 0 ∧ y = -1) ∨ (0 < j ∧ y = nI (nvS b p0 j))) (hby : nvS b p0 j < 10 ^ j) (hpos : Vw 21 1 = nI (p0 + j)) (hf : ∀ j, j ≠ 21 → Vw j = V j), 6 - j < fu → Wd E Vw H → va_S (AE E) s.heap H locs → lv_has ls 5 [(0, .ref (E.1 + 21)), (1, .ref (E.1 + k)), (2, .int y), (3, .int x)] → W p l e (headSpec wsX0_takeNumber (rmD 1)).room s m ([.ref (E.1 + 21), .ref (E.1 + k)] : List Value).toArray below meth c H locs 0 0 (MQ below (QI E (fun V' => Wd E V') (fun r V' => r = (if nd b 6 p0 = 0 then -1 else nI (nvS b p0 (nd b 6 p0))) ∧ V' 21 1 = nI (p0 + nd b 6 p0) ∧ ∀ j, j ≠ 21 → V' j = V j)) ([.ref (E.1 + 21), .ref (E.1 + k)] : List Value).toArray s 0 0 (AE E)) (F0 m 4 ls []) := by
    intro fu
    induction fu with
    | zero => intros; omega
    | succ fu ih =>
      intro Vw H locs ls j x y ex hj hnd hy hby hpos hf hfu hM hS hl
      have hrw : rowIs Vw k b := hr0.keep (hf k (by omega)) (hf (k + 1) (by omega))
      refine lv_iload_n hx hb dX0_takeNumber_4 rfl (lv_at hl 3 rfl) ?_
      refine lv_bipush (v := 6) hx hb dX0_takeNumber_5 (by decide) ?_
      refine lv_icmp_ge (tgt := 65) hx hb dX0_takeNumber_7 (by decide) (fun c_7 => ?_) (fun c_7 => ?_)
      · have hnd0 : nd b 6 p0 = j := by have := nI_lei (a := 6) ex c_7 (by omega) (by omega); rw [hnd, show 6 - j = 0 by omega]; simp [nd]
        refine lv_iload_n hx hb dX0_takeNumber_65 rfl (lv_at hl 2 rfl) ?_
        exact w_iret Vw hx hb hret hK hS hM (⟨by rw [hnd0]; rcases hy with ⟨h0, h1⟩ | ⟨h0, h1⟩; (rw [if_pos h0]; exact h1); (rw [if_neg (by omega)]; exact h1), by rw [hnd0]; exact hpos, hf⟩) hlocks dX0_takeNumber_66
      · have hlt := nI_ltn (a := 6) ex c_7 (by omega) (by omega)
        have hnd1 : nd b (6 - j) (p0 + j) = if isDg (Bt b (p0 + j)) then nd b (6 - (j + 1)) (p0 + (j + 1)) + 1 else 0 := by
          rw [show 6 - j = (6 - (j + 1)) + 1 by omega]; rfl
        refine lv_aload_n hx hb dX0_takeNumber_10 rfl (lv_at hl 1 rfl) ?_
        refine lv_aload_n hx hb dX0_takeNumber_11 rfl (lv_at hl 0 rfl) ?_
        refine w_gi 0 1 (T := TX0) (N := 2) hx hb hts in0 hown hK.1 hM (by decide) (by decide) (by decide) (by decide) (by decide) rfl (by decide) k15 rfl dX0_takeNumber_12 ?_
        have q : (Vw 21 1 : Int32) = nI (p0 + j) := hpos
        refine lv_eqi q ?_
        refine w_cVi (C := RX3) (As := [.int (nI (p0 + j))]) (rest := []) ⟨hx, hb, hml, hown, hts⟩ (c_X3_byteAt l hk hrw hbl (nI (p0 + j))) (cwV 1 hts gX0_takeNumber_X3_byteAt rfl rfl rfl (by decide +kernel) ⟨Nat.le_of_ble_eq_true rfl, Nat.le_of_ble_eq_true rfl⟩) (w_recv (ci := 3) hK hM (hk).lt (hk).k (by decide) rfl) hM hK hS rfl hl.1 rfl (lv_room (Nat.le_of_ble_eq_true rfl)) dX0_takeNumber_15 ⟨Nat.le_of_ble_eq_true rfl, Nat.le_of_ble_eq_true rfl⟩ (fun r15 V15 H locs hp15 hM hS => ?_)
        obtain ⟨er15, eV⟩ := hp15
        rw [eV] at hM; clear eV
        have q : (r15 : Int32) = Bt b (p0 + j) := er15.trans (Bt_eq (by omega) (by omega))
        refine lv_eqi q ?_
        refine lv_bipush (v := 48) hx hb dX0_takeNumber_18 (by decide) ?_
        refine lv_isub hx hb dX0_takeNumber_20 ?_
        refine lv_topi (fun x4_21 ex4_21 => ?_)
        refine lv_istore (lv' := [(4, .int x4_21), (0, .ref (E.1 + 21)), (1, .ref (E.1 + k)), (2, .int y), (3, .int x)]) hx hb dX0_takeNumber_21 hl (by decide) rfl (fun ls hl => ?_)
        refine lv_iload hx hb dX0_takeNumber_23 (lv_at hl 0 rfl) ?_
        refine lv_if_lt (tgt := 35) hx hb dX0_takeNumber_25 (by decide) (fun c_25 => ?_) (fun c_25 => ?_)
        · have hnd0 : nd b 6 p0 = j := by
            have : isDg (Bt b (p0 + j)) = false := by unfold isDg; rw [← ex4_21]; simp only [Bool.and_eq_false_iff, decide_eq_false_iff_not]; first | exact Or.inl (not_not_intro c_25) | exact Or.inr c_32
            rw [hnd, hnd1, this]; simp
          refine lv_iload_n hx hb dX0_takeNumber_35 rfl (lv_at hl 3 rfl) ?_
          exact w_iret Vw hx hb hret hK hS hM (⟨by rw [hnd0]; rcases hy with ⟨h0, h1⟩ | ⟨h0, h1⟩; (rw [if_pos h0]; exact h1); (rw [if_neg (by omega)]; exact h1), by rw [hnd0]; exact hpos, hf⟩) hlocks dX0_takeNumber_36
        · refine lv_iload hx hb dX0_takeNumber_28 (lv_at hl 0 rfl) ?_
          refine lv_bipush (v := 9) hx hb dX0_takeNumber_30 (by decide) ?_
          refine lv_icmp_le (tgt := 37) hx hb dX0_takeNumber_32 (by decide) (fun c_32 => ?_) (fun c_32 => ?_)
          · have hdg : isDg (Bt b (p0 + j)) = true := by unfold isDg; rw [← ex4_21]; simp only [Bool.and_eq_true, decide_eq_true_eq]; exact ⟨c_25, c_32⟩
            rw [if_pos hdg] at hnd1
            have hmx : (if 0 < y then y else 0) = nI (nvS b p0 j) := by
              rcases hy with ⟨rfl, rfl⟩ | ⟨h0, rfl⟩
              · rfl
              · split
                · rfl
                · rename_i hq
                  have hlt10 : 10 ^ j ≤ 10 ^ 6 := Nat.pow_le_pow_right (by omega) (by omega)
                  rcases Nat.eq_zero_or_pos (nvS b p0 j) with h | h
                  · rw [h]; rfl
                  · exact absurd (nI_lt (a := 0) h (by omega)) hq
            refine lv_iconst (v := 0) hx hb dX0_takeNumber_37 (by decide) ?_
            refine lv_iload_n hx hb dX0_takeNumber_38 rfl (lv_at hl 3 rfl) ?_
            refine va_mmax hx hb (hml.trans hl.1.symm) hown (hts (.methodLink RX0 43 Lib.Math.max.name) (by decide +kernel)) (hts (.static Lib.Math.max.name) (by decide +kernel)) (hts (.initialized "java/lang/Math") (by decide +kernel)) (hts (.code Lib.Math.max.name Lib.Math.max.code 2 (some .int)) (by decide +kernel)) (Nat.le_of_ble_eq_true rfl) (Nat.le_of_ble_eq_true rfl) (Nat.zero_le _) (Nat.zero_le _) dX0_takeNumber_39 ?_
            refine lv_bipush (v := 10) hx hb dX0_takeNumber_42 (by decide) ?_
            refine lv_imul hx hb dX0_takeNumber_44 ?_
            refine lv_iload hx hb dX0_takeNumber_45 (lv_at hl 0 rfl) ?_
            refine lv_iadd hx hb dX0_takeNumber_47 ?_
            refine lv_topi (fun x2_48 ex2_48 => ?_)
            refine lv_istore_n (lv' := [(2, .int x2_48), (4, .int x4_21), (0, .ref (E.1 + 21)), (1, .ref (E.1 + k)), (3, .int x)]) hx hb dX0_takeNumber_48 rfl hl (by decide) rfl (fun ls hl => ?_)
            refine lv_aload_n hx hb dX0_takeNumber_49 rfl (lv_at hl 2 rfl) ?_
            refine lv_dup hx hb dX0_takeNumber_50 rfl ?_
            refine w_gi 0 1 (T := TX0) (N := 2) hx hb hts in0 hown hK.1 hM (by decide) (by decide) (by decide) (by decide) (by decide) rfl (by decide) k15 rfl dX0_takeNumber_51 ?_
            have q : (Vw 21 1 : Int32) = nI (p0 + j) := hpos
            refine lv_eqi q ?_
            refine lv_iconst (v := 1) hx hb dX0_takeNumber_54 (by decide) ?_
            refine lv_iadd hx hb dX0_takeNumber_55 ?_
            refine w_pi 0 1 (T := TX0) (N := 2) hx hb hts in0 tyX0 tyX0_ok nmX0 hown hK.1 hM hS (by decide) (by decide) (by decide) (by decide) (by decide) rfl (by decide) k15 rfl rfl rfl rfl dX0_takeNumber_56 (fun H locs hM hS => ?_)
            generalize hV56 : up2 Vw 21 1 ((nI (p0 + j)) + 1) = V56 at hM
            obtain ⟨x3_59, ex3_59⟩ : ∃ y : Int32, y = x + 1 := ⟨_, rfl⟩
            refine lv_iinc (v := x3_59) (lv' := [(3, .int x3_59), (2, .int x2_48), (4, .int x4_21), (0, .ref (E.1 + 21)), (1, .ref (E.1 + k))]) hx hb dX0_takeNumber_59 hl (k := 4) rfl (by rw [ex3_59]; rfl) (by decide) rfl (fun ls hl => ?_)
            refine lv_goto (tgt := 4) hx hb dX0_takeNumber_62 (by decide) ?_
            obtain ⟨hn1, hn2⟩ := num_s (l := b) (p := p0) (j := j) rfl hby hlt hdg (y := x2_48) (by rw [ex2_48, hmx, ex4_21])
            exact ih V56 _ _ _ (j + 1) _ _ (by rw [ex3_59, ex, nI_1]) (by omega) (by rw [hnd, hnd1]; omega) (Or.inr ⟨by omega, hn1⟩) hn2 (by subst hV56; rw [up2_s]; exact nI_1 _) (fun i hi => by subst hV56; rw [up2_k _ _ hi]; exact hf i hi) (by omega) hM hS (lv_sub hl [3, 4, 1, 0] rfl)
          · have hnd0 : nd b 6 p0 = j := by
              have : isDg (Bt b (p0 + j)) = false := by unfold isDg; rw [← ex4_21]; simp only [Bool.and_eq_false_iff, decide_eq_false_iff_not]; first | exact Or.inl (not_not_intro c_25) | exact Or.inr c_32
              rw [hnd, hnd1, this]; simp
            refine lv_iload_n hx hb dX0_takeNumber_35 rfl (lv_at hl 3 rfl) ?_
            exact w_iret Vw hx hb hret hK hS hM (⟨by rw [hnd0]; rcases hy with ⟨h0, h1⟩ | ⟨h0, h1⟩; (rw [if_pos h0]; exact h1); (rw [if_neg (by omega)]; exact h1), by rw [hnd0]; exact hpos, hf⟩) hlocks dX0_takeNumber_36
  exact loop4 _ V _ _ _ 0 0 (-1) (rfl) (Nat.zero_le _) (rfl) (Or.inl ⟨rfl, rfl⟩) (Nat.one_pos) (hp0) (fun _ _ => rfl) (Nat.lt_succ_self _) hM hS (lv_sub hl [2, 3, 1, 0] rfl)

set_option maxHeartbeats 4000000 in
set_option maxRecDepth 100000 in
theorem c_X0_judgeTest (l : Launch) {E : En} {V : Vt} {k cap : Nat} (hk : isRow k cap) {b : List Int32} (hr0 : rowIs V k b) (hbl : b.length ≤ cap) {p0 : Nat} (hp0 : V 21 1 = nI p0) (hpl : p0 < 90000) : CI l yX0_judgeTest wsX0_judgeTest 2 E V [.ref (E.1 + 21), .ref (E.1 + k)] (fun r V' => (∀ z p', tst (V 22) b p0 = some (z, p') → r = b2i z ∧ V' 21 1 = nI p') ∧ (tst (V 22) b p0 = none → r = -1) ∧ ∀ j, j ≠ 21 → V' j = V j) := by
  refine Met.ofW (cc := cX0_judgeTest) (maxL := 6) (ret := (some .int)) (by decide) rfl ?_
  intro p e s m args below meth c s₁ B hml hv
  obtain ⟨rfl, hM, hK⟩ := hv
  have hx := B.exec
  have hb := B.bytes
  have hret := B.returns
  have hts := atoms_spec (ws := wsX0_judgeTest) B.pre
  have hown : s.vm.findClass RX0 = some m.cls := findClass_of_methodNamed B.named
  have hlocks := B.notSynchronized
  have hsz : s.heap.size = E.1 + 610 := hM.1
  have hS : va_S (AE E) s.heap s.heap [] := va_S.rf
  have in0 : ∀ w ∈ u_ws RX0 TX0 2, w ∈ wsX0_judgeTest := by decide +kernel
  have k15 := hts (.fieldLink RX0 15 "LimitTokens$Judge" "position" "I") (by decide +kernel)
  have k9 := hts (.fieldLink RX0 9 "LimitTokens$Judge" "request" "[I") (by decide +kernel)
  have hl := lv_entry ([.ref (E.1 + 21), .ref (E.1 + k)]) (n := 6) (Nat.le_of_ble_eq_true rfl)
  rw [lg_entry_eq]
  generalize (lg_sl ([.ref (E.1 + 21), .ref (E.1 + k)]) ++ List.replicate (6 - (lg_sl ([.ref (E.1 + 21), .ref (E.1 + k)])).length) Slot.unset).toArray = ls at hl ⊢
  have hl : lv_has ls 6 [(0, .ref (E.1 + 21)), (1, .ref (E.1 + k))] := hl
  have hcap := hk.cap
  have hwh := hk.where
  refine lv_aload_n hx hb dX0_judgeTest_0 rfl (lv_at hl 1 rfl) ?_
  refine lv_aload_n hx hb dX0_judgeTest_1 rfl (lv_at hl 0 rfl) ?_
  refine w_gi 0 1 (T := TX0) (N := 2) hx hb hts in0 hown hK.1 hM (by decide) (by decide) (by decide) (by decide) (by decide) rfl (by decide) k15 rfl dX0_judgeTest_2 ?_
  have q : (V 21 1 : Int32) = nI p0 := hp0
  refine lv_eqi q ?_
  refine w_cVi (C := RX3) (As := [.int (nI p0)]) (rest := []) ⟨hx, hb, hml, hown, hts⟩ (c_X3_byteAt l hk hr0 hbl (nI p0)) (cwV 1 hts gX0_judgeTest_X3_byteAt rfl rfl rfl (by decide +kernel) ⟨Nat.le_of_ble_eq_true rfl, Nat.le_of_ble_eq_true rfl⟩) (w_recv (ci := 3) hK hM (hk).lt (hk).k (by decide) rfl) hM hK hS rfl hl.1 rfl (lv_room (Nat.le_of_ble_eq_true rfl)) dX0_judgeTest_5 ⟨Nat.le_of_ble_eq_true rfl, Nat.le_of_ble_eq_true rfl⟩ (fun r5 V5 H locs hp5 hM hS => ?_)
  obtain ⟨er5, eV⟩ := hp5
  rw [eV] at hM; clear eV
  have q : (r5 : Int32) = Bt b p0 := er5.trans (Bt_eq (by omega) (by omega))
  refine lv_eqi q ?_
  refine lv_bipush (v := 33) hx hb dX0_judgeTest_8 (by decide) ?_
  have join19 : ∀ (Va : Vt) (H : Heap) (locs : List Loc) (ls : Array Slot) (nt : Int32) (ent : nt = b2i (decide (Bt b p0 = 33))) (eVa : Va = V), Wd E Va H → va_S (AE E) s.heap H locs → lv_has ls 6 [(0, .ref (E.1 + 21)), (1, .ref (E.1 + k)), (2, .int nt)] → W p l e (headSpec wsX0_judgeTest (rmD 2)).room s m ([.ref (E.1 + 21), .ref (E.1 + k)] : List Value).toArray below meth c H locs 0 0 (MQ below (QI E (fun V' => Wd E V') (fun r V' => (∀ z p', tst (V 22) b p0 = some (z, p') → r = b2i z ∧ V' 21 1 = nI p') ∧ (tst (V 22) b p0 = none → r = -1) ∧ ∀ j, j ≠ 21 → V' j = V j)) ([.ref (E.1 + 21), .ref (E.1 + k)] : List Value).toArray s 0 0 (AE E)) (F0 m 19 ls []) := by
    intro Va H locs ls nt ent eVa hM hS hl
    refine lv_iload_n hx hb dX0_judgeTest_19 rfl (lv_at hl 2 rfl) ?_
    have join33 : ∀ (Vj : Vt) (H : Heap) (locs : List Loc) (ls : Array Slot)  (hpj : Vj 21 1 = nI (p1 b p0)) (hfj : ∀ j, j ≠ 21 → Vj j = V j), Wd E Vj H → va_S (AE E) s.heap H locs → lv_has ls 6 [(0, .ref (E.1 + 21)), (1, .ref (E.1 + k)), (2, .int nt)] → W p l e (headSpec wsX0_judgeTest (rmD 2)).room s m ([.ref (E.1 + 21), .ref (E.1 + k)] : List Value).toArray below meth c H locs 0 0 (MQ below (QI E (fun V' => Wd E V') (fun r V' => (∀ z p', tst (V 22) b p0 = some (z, p') → r = b2i z ∧ V' 21 1 = nI p') ∧ (tst (V 22) b p0 = none → r = -1) ∧ ∀ j, j ≠ 21 → V' j = V j)) ([.ref (E.1 + 21), .ref (E.1 + k)] : List Value).toArray s 0 0 (AE E)) (F0 m 33 ls []) := by
      intro Vj H locs ls  hpj hfj hM hS hl
      have hrj : rowIs Vj k b := hr0.keep (hfj k (by omega)) (hfj (k + 1) (by omega))
      have hp1 : p0 ≤ p1 b p0 ∧ p1 b p0 ≤ p0 + 1 := by unfold p1; split <;> omega
      refine lv_aload_n hx hb dX0_judgeTest_33 rfl (lv_at hl 1 rfl) ?_
      refine lv_aload_n hx hb dX0_judgeTest_34 rfl (lv_at hl 0 rfl) ?_
      refine w_gi 0 1 (T := TX0) (N := 2) hx hb hts in0 hown hK.1 hM (by decide) (by decide) (by decide) (by decide) (by decide) rfl (by decide) k15 rfl dX0_judgeTest_35 ?_
      have q : (Vj 21 1 : Int32) = nI (p1 b p0) := hpj
      refine lv_eqi q ?_
      refine w_cVi (C := RX3) (As := [.int (nI (p1 b p0))]) (rest := []) ⟨hx, hb, hml, hown, hts⟩ (c_X3_byteAt l hk hrj hbl (nI (p1 b p0))) (cwV 1 hts gX0_judgeTest_X3_byteAt rfl rfl rfl (by decide +kernel) ⟨Nat.le_of_ble_eq_true rfl, Nat.le_of_ble_eq_true rfl⟩) (w_recv (ci := 3) hK hM (hk).lt (hk).k (by decide) rfl) hM hK hS rfl hl.1 rfl (lv_room (Nat.le_of_ble_eq_true rfl)) dX0_judgeTest_38 ⟨Nat.le_of_ble_eq_true rfl, Nat.le_of_ble_eq_true rfl⟩ (fun r38 V38 H locs hp38 hM hS => ?_)
      obtain ⟨er38, eV⟩ := hp38
      rw [eV] at hM; clear eV
      have q : (r38 : Int32) = Bt b (p1 b p0) := er38.trans (Bt_eq (by omega) (by omega))
      refine lv_eqi q ?_
      refine lv_bipush (v := 97) hx hb dX0_judgeTest_41 (by decide) ?_
      refine lv_isub hx hb dX0_judgeTest_43 ?_
      refine lv_topi (fun x3_44 ex3_44 => ?_)
      refine lv_istore_n (lv' := [(3, .int x3_44), (0, .ref (E.1 + 21)), (1, .ref (E.1 + k)), (2, .int nt)]) hx hb dX0_judgeTest_44 rfl hl (by decide) rfl (fun ls hl => ?_)
      refine lv_aload_n hx hb dX0_judgeTest_45 rfl (lv_at hl 2 rfl) ?_
      refine lv_aload_n hx hb dX0_judgeTest_46 rfl (lv_at hl 1 rfl) ?_
      refine w_gi 0 1 (T := TX0) (N := 2) hx hb hts in0 hown hK.1 hM (by decide) (by decide) (by decide) (by decide) (by decide) rfl (by decide) k15 rfl dX0_judgeTest_47 ?_
      have q : (Vj 21 1 : Int32) = nI (p1 b p0) := hpj
      refine lv_eqi q ?_
      refine lv_iconst (v := 1) hx hb dX0_judgeTest_50 (by decide) ?_
      refine lv_iadd hx hb dX0_judgeTest_51 ?_
      refine w_cVi (C := RX3) (As := [.int ((nI (p1 b p0)) + 1)]) (rest := []) ⟨hx, hb, hml, hown, hts⟩ (c_X3_byteAt l hk hrj hbl (nI (p1 b p0) + 1)) (cwV 1 hts gX0_judgeTest_X3_byteAt rfl rfl rfl (by decide +kernel) ⟨Nat.le_of_ble_eq_true rfl, Nat.le_of_ble_eq_true rfl⟩) (w_recv (ci := 3) hK hM (hk).lt (hk).k (by decide) rfl) hM hK hS rfl hl.1 rfl (lv_room (Nat.le_of_ble_eq_true rfl)) dX0_judgeTest_52 ⟨Nat.le_of_ble_eq_true rfl, Nat.le_of_ble_eq_true rfl⟩ (fun r52 V52 H locs hp52 hM hS => ?_)
      obtain ⟨er52, eV⟩ := hp52
      rw [eV] at hM; clear eV
      have q : (r52 : Int32) = Bt b (p1 b p0 + 1) := er52.trans (by rw [nI_1]; exact Bt_eq (by omega) (by omega))
      refine lv_eqi q ?_
      refine lv_topi (fun x4_55 ex4_55 => ?_)
      refine lv_istore (lv' := [(4, .int x4_55), (3, .int x3_44), (0, .ref (E.1 + 21)), (1, .ref (E.1 + k)), (2, .int nt)]) hx hb dX0_judgeTest_55 hl (by decide) rfl (fun ls hl => ?_)
      refine lv_aload_n hx hb dX0_judgeTest_57 rfl (lv_at hl 2 rfl) ?_
      refine lv_dup hx hb dX0_judgeTest_58 rfl ?_
      refine w_gi 0 1 (T := TX0) (N := 2) hx hb hts in0 hown hK.1 hM (by decide) (by decide) (by decide) (by decide) (by decide) rfl (by decide) k15 rfl dX0_judgeTest_59 ?_
      have q : (Vj 21 1 : Int32) = nI (p1 b p0) := hpj
      refine lv_eqi q ?_
      refine lv_iconst (v := 2) hx hb dX0_judgeTest_62 (by decide) ?_
      refine lv_iadd hx hb dX0_judgeTest_63 ?_
      refine w_pi 0 1 (T := TX0) (N := 2) hx hb hts in0 tyX0 tyX0_ok nmX0 hown hK.1 hM hS (by decide) (by decide) (by decide) (by decide) (by decide) rfl (by decide) k15 rfl rfl rfl rfl dX0_judgeTest_64 (fun H locs hM hS => ?_)
      generalize hV64 : up2 Vj 21 1 ((nI (p1 b p0)) + 2) = V64 at hM
      have hr64 : rowIs V64 k b := by subst hV64; exact hrj.keep (up2_k _ _ (by omega)) (up2_k _ _ (by omega))
      refine lv_aload_n hx hb dX0_judgeTest_67 rfl (lv_at hl 2 rfl) ?_
      refine lv_aload_n hx hb dX0_judgeTest_68 rfl (lv_at hl 3 rfl) ?_
      refine w_cVi (C := RX0) (As := [.ref (E.1 + k)]) (rest := []) ⟨hx, hb, hml, hown, hts⟩ (c_X0_takeNumber l hk hr64 hbl (p0 := p1 b p0 + 2) (by subst hV64; rw [up2_s]; exact nI_add _ 2) (by omega)) (cwV 1 hts gX0_judgeTest_X0_takeNumber rfl rfl rfl (by decide +kernel) ⟨Nat.le_of_ble_eq_true rfl, Nat.le_of_ble_eq_true rfl⟩) (w_recv (ci := 0) hK hM (by decide) (by decide) (by decide) rfl) hM hK hS rfl hl.1 rfl (lv_room (Nat.le_of_ble_eq_true rfl)) dX0_judgeTest_69 ⟨Nat.le_of_ble_eq_true rfl, Nat.le_of_ble_eq_true rfl⟩ (fun r69 V69 H locs hp69 hM hS => ?_)
      have hf69 : ∀ j, j ≠ 21 → V69 j = V j := fun j hj => by rw [hp69.2.2 j hj]; subst hV64; rw [up2_k _ _ hj]; exact hfj j hj
      refine lv_istore (lv' := [(5, .int r69), (4, .int x4_55), (3, .int x3_44), (0, .ref (E.1 + 21)), (1, .ref (E.1 + k)), (2, .int nt)]) hx hb dX0_judgeTest_72 hl (by decide) rfl (fun ls hl => ?_)
      have e22 : V69 22 = V 22 := hf69 22 (by decide)
      refine lv_iload_n hx hb dX0_judgeTest_74 rfl (lv_at hl 2 rfl) ?_
      refine lv_if_lt (tgt := 98) hx hb dX0_judgeTest_75 (by decide) (fun c_75 => ?_) (fun c_75 => ?_)
      · have hno : tst (V 22) b p0 = none := tst_no ex3_44 ex4_55 hp69.1 (by first | exact Or.inl c_75 | exact Or.inr (Or.inl c_81) | exact Or.inr (Or.inr (Or.inl (er86.symm.trans c_89))) | exact Or.inr (Or.inr (Or.inr c_95)))
        refine lv_iconst (v := (-1)) hx hb dX0_judgeTest_98 (by decide) ?_
        exact w_iret V69 hx hb hret hK hS hM (⟨fun z p' h => (by rw [hno] at h; cases h), fun _ => rfl, hf69⟩) hlocks dX0_judgeTest_99
      · refine lv_iload_n hx hb dX0_judgeTest_78 rfl (lv_at hl 2 rfl) ?_
        refine lv_bipush (v := 8) hx hb dX0_judgeTest_79 (by decide) ?_
        refine lv_icmp_ge (tgt := 98) hx hb dX0_judgeTest_81 (by decide) (fun c_81 => ?_) (fun c_81 => ?_)
        · have hno : tst (V 22) b p0 = none := tst_no ex3_44 ex4_55 hp69.1 (by first | exact Or.inl c_75 | exact Or.inr (Or.inl c_81) | exact Or.inr (Or.inr (Or.inl (er86.symm.trans c_89))) | exact Or.inr (Or.inr (Or.inr c_95)))
          refine lv_iconst (v := (-1)) hx hb dX0_judgeTest_98 (by decide) ?_
          exact w_iret V69 hx hb hret hK hS hM (⟨fun z p' h => (by rw [hno] at h; cases h), fun _ => rfl, hf69⟩) hlocks dX0_judgeTest_99
        · refine lv_iload hx hb dX0_judgeTest_84 (lv_at hl 1 rfl) ?_
          refine w_cSi (As := [.int x4_55]) (rest := []) ⟨hx, hb, hml, hown, hts⟩ (c_X0_isKind l x4_55) (va_cwS 1 hts gX0_judgeTest_X0_isKind rfl rfl rfl (by decide +kernel) ⟨Nat.le_of_ble_eq_true rfl, Nat.le_of_ble_eq_true rfl⟩) hM hK hS rfl hl.1 rfl (lv_room (Nat.le_of_ble_eq_true rfl)) dX0_judgeTest_86 ⟨Nat.le_of_ble_eq_true rfl, Nat.le_of_ble_eq_true rfl⟩ (fun r86 V86 H locs hp86 hM hS => ?_)
          obtain ⟨er86, eV⟩ := hp86
          rw [eV] at hM; clear eV
          refine lv_if_eq (tgt := 98) hx hb dX0_judgeTest_89 (by decide) (fun c_89 => ?_) (fun c_89 => ?_)
          · have hno : tst (V 22) b p0 = none := tst_no ex3_44 ex4_55 hp69.1 (by first | exact Or.inl c_75 | exact Or.inr (Or.inl c_81) | exact Or.inr (Or.inr (Or.inl (er86.symm.trans c_89))) | exact Or.inr (Or.inr (Or.inr c_95)))
            refine lv_iconst (v := (-1)) hx hb dX0_judgeTest_98 (by decide) ?_
            exact w_iret V69 hx hb hret hK hS hM (⟨fun z p' h => (by rw [hno] at h; cases h), fun _ => rfl, hf69⟩) hlocks dX0_judgeTest_99
          · refine lv_iload hx hb dX0_judgeTest_92 (lv_at hl 0 rfl) ?_
            refine lv_iconst (v := (-1)) hx hb dX0_judgeTest_94 (by decide) ?_
            refine lv_icmp_ne (tgt := 100) hx hb dX0_judgeTest_95 (by decide) (fun c_95 => ?_) (fun c_95 => ?_)
            · obtain ⟨jl, hjl, ejl⟩ := ix_of (n := 8) c_75 c_81 (by omega)
              have hyes := tst_yes (q := V 22) ex3_44 ex4_55 hp69.1 c_75 c_81 (fun h => c_89 (er86.trans h)) c_95
              refine lv_aload_n hx hb dX0_judgeTest_100 rfl (lv_at hl 3 rfl) ?_
              refine w_gr 0 0 22 (T := TX0) (N := 2) hx hb hts in0 hown hK.1 hM (by decide) (by decide) (by decide) (by decide) (by decide) rfl (by decide) k9 rfl dX0_judgeTest_101 ?_
              refine lv_iload_n hx hb dX0_judgeTest_104 rfl (lv_at hl 2 rfl) ?_
              refine w_ild (N := 8) hx hb hK.1 hM (by decide) (by decide) (by decide) (by rw [ejl]; exact vp_in_nI (by omega) (by omega)) dX0_judgeTest_105 ?_
              have q : (V69 22 x3_44.toNatClampNeg : Int32) = V 22 x3_44.toNatClampNeg := by rw [e22]
              refine lv_eqi q ?_
              refine lv_iload hx hb dX0_judgeTest_106 (lv_at hl 1 rfl) ?_
              refine lv_iload hx hb dX0_judgeTest_108 (lv_at hl 0 rfl) ?_
              refine w_cSi (As := [.int (V 22 x3_44.toNatClampNeg), .int x4_55, .int r69]) (rest := []) ⟨hx, hb, hml, hown, hts⟩ (c_X0_holds l (V 22 x3_44.toNatClampNeg) x4_55 r69) (va_cwS 3 hts gX0_judgeTest_X0_holds rfl rfl rfl (by decide +kernel) ⟨Nat.le_of_ble_eq_true rfl, Nat.le_of_ble_eq_true rfl⟩) hM hK hS rfl hl.1 rfl (lv_room (Nat.le_of_ble_eq_true rfl)) dX0_judgeTest_110 ⟨Nat.le_of_ble_eq_true rfl, Nat.le_of_ble_eq_true rfl⟩ (fun r110 V110 H locs hp110 hM hS => ?_)
              obtain ⟨er110, eV⟩ := hp110
              rw [eV] at hM; clear eV
              refine lv_iload_n hx hb dX0_judgeTest_113 rfl (lv_at hl 5 rfl) ?_
              refine lv_icmp_eq (tgt := 121) hx hb dX0_judgeTest_114 (by decide) (fun c_114 => ?_) (fun c_114 => ?_)
              · refine lv_iconst (v := 0) hx hb dX0_judgeTest_121 (by decide) ?_
                exact w_iret V69 hx hb hret hK hS hM (⟨fun z p' h => (by rw [hyes] at h; cases h; exact ⟨(by first | exact (ne_b2i.1 (by rw [← er110, ← ent]; exact c_114)).symm | exact (ne_b2i.2 (by rw [← er110, ← ent]; exact c_114)).symm), hp69.2.1⟩), fun h => (by rw [hyes] at h; cases h), hf69⟩) hlocks dX0_judgeTest_122
              · refine lv_iconst (v := 1) hx hb dX0_judgeTest_117 (by decide) ?_
                refine lv_goto (tgt := 122) hx hb dX0_judgeTest_118 (by decide) ?_
                exact w_iret V69 hx hb hret hK hS hM (⟨fun z p' h => (by rw [hyes] at h; cases h; exact ⟨(by first | exact (ne_b2i.1 (by rw [← er110, ← ent]; exact c_114)).symm | exact (ne_b2i.2 (by rw [← er110, ← ent]; exact c_114)).symm), hp69.2.1⟩), fun h => (by rw [hyes] at h; cases h), hf69⟩) hlocks dX0_judgeTest_122
            · have hno : tst (V 22) b p0 = none := tst_no ex3_44 ex4_55 hp69.1 (by first | exact Or.inl c_75 | exact Or.inr (Or.inl c_81) | exact Or.inr (Or.inr (Or.inl (er86.symm.trans c_89))) | exact Or.inr (Or.inr (Or.inr c_95)))
              refine lv_iconst (v := (-1)) hx hb dX0_judgeTest_98 (by decide) ?_
              exact w_iret V69 hx hb hret hK hS hM (⟨fun z p' h => (by rw [hno] at h; cases h), fun _ => rfl, hf69⟩) hlocks dX0_judgeTest_99
    refine lv_if_eq (tgt := 33) hx hb dX0_judgeTest_20 (by decide) (fun c_20 => ?_) (fun c_20 => ?_)
    · exact join33 Va _ _ _ (by unfold p1; rw [ent] at c_20; rw [if_neg (of_decide_eq_false (b2i_eq0 c_20)), eVa]; exact hp0) (fun i hi => by rw [eVa]) hM hS (lv_sub hl [0, 1, 2] rfl)
    · refine lv_aload_n hx hb dX0_judgeTest_23 rfl (lv_at hl 0 rfl) ?_
      refine lv_dup hx hb dX0_judgeTest_24 rfl ?_
      refine w_gi 0 1 (T := TX0) (N := 2) hx hb hts in0 hown hK.1 hM (by decide) (by decide) (by decide) (by decide) (by decide) rfl (by decide) k15 rfl dX0_judgeTest_25 ?_
      have q : (Va 21 1 : Int32) = nI p0 := by rw [eVa]; exact hp0
      refine lv_eqi q ?_
      refine lv_iconst (v := 1) hx hb dX0_judgeTest_28 (by decide) ?_
      refine lv_iadd hx hb dX0_judgeTest_29 ?_
      refine w_pi 0 1 (T := TX0) (N := 2) hx hb hts in0 tyX0 tyX0_ok nmX0 hown hK.1 hM hS (by decide) (by decide) (by decide) (by decide) (by decide) rfl (by decide) k15 rfl rfl rfl rfl dX0_judgeTest_30 (fun H locs hM hS => ?_)
      generalize hV30 : up2 Va 21 1 ((nI p0) + 1) = V30 at hM
      exact join33 V30 _ _ _ (by subst hV30; rw [up2_s]; unfold p1; rw [ent] at c_20; rw [if_pos (of_decide_eq_true (b2i_ne0 c_20))]; exact nI_1 _) (fun i hi => by subst hV30; rw [up2_k _ _ hi, eVa]) hM hS (lv_sub hl [0, 1, 2] rfl)
  refine lv_icmp_ne (tgt := 17) hx hb dX0_judgeTest_10 (by decide) (fun c_10 => ?_) (fun c_10 => ?_)
  · refine lv_iconst (v := 0) hx hb dX0_judgeTest_17 (by decide) ?_
    refine lv_istore_n (lv' := [(2, .int 0), (0, .ref (E.1 + 21)), (1, .ref (E.1 + k))]) hx hb dX0_judgeTest_18 rfl hl (by decide) rfl (fun ls hl => ?_)
    exact join19 V _ _ _ _ (by first | (rw [decide_eq_true c_10]; rfl) | (rw [decide_eq_false c_10]; rfl)) rfl hM hS (lv_sub hl [1, 2, 0] rfl)
  · refine lv_iconst (v := 1) hx hb dX0_judgeTest_13 (by decide) ?_
    refine lv_goto (tgt := 18) hx hb dX0_judgeTest_14 (by decide) ?_
    refine lv_istore_n (lv' := [(2, .int 1), (0, .ref (E.1 + 21)), (1, .ref (E.1 + k))]) hx hb dX0_judgeTest_18 rfl hl (by decide) rfl (fun ls hl => ?_)
    exact join19 V _ _ _ _ (by first | (rw [decide_eq_true c_10]; rfl) | (rw [decide_eq_false c_10]; rfl)) rfl hM hS (lv_sub hl [1, 2, 0] rfl)

set_option maxHeartbeats 4000000 in
set_option maxRecDepth 100000 in
theorem c_X0_judgeText (l : Launch) {E : En} {V : Vt} {k cap : Nat} (hk : isRow k cap) {b : List Int32} (hr0 : rowIs V k b) (hbl : b.length ≤ cap) : CI l yX0_judgeText wsX0_judgeText 3 E V [.ref (E.1 + 21), .ref (E.1 + k)] (fun r V' => r = truth (V 22) b ∧ ∀ j, j ≠ 21 → V' j = V j) := by
  refine Met.ofW (cc := cX0_judgeText) (maxL := 7) (ret := (some .int)) (by decide) rfl ?_
  intro p e s m args below meth c s₁ B hml hv
  obtain ⟨rfl, hM, hK⟩ := hv
  have hx := B.exec
  have hb := B.bytes
  have hret := B.returns
  have hts := atoms_spec (ws := wsX0_judgeText) B.pre
  have hown : s.vm.findClass RX0 = some m.cls := findClass_of_methodNamed B.named
  have hlocks := B.notSynchronized
  have hsz : s.heap.size = E.1 + 610 := hM.1
  have hS : va_S (AE E) s.heap s.heap [] := va_S.rf
  have in0 : ∀ w ∈ u_ws RX0 TX0 2, w ∈ wsX0_judgeText := by decide +kernel
  have in3 : ∀ w ∈ u_ws RX3 TX3 2, w ∈ wsX0_judgeText := by decide +kernel
  have k15 := hts (.fieldLink RX0 15 "LimitTokens$Judge" "position" "I") (by decide +kernel)
  have k19 := hts (.fieldLink RX0 19 "LimitTokens$Row" "length" "I") (by decide +kernel)
  have hl := lv_entry ([.ref (E.1 + 21), .ref (E.1 + k)]) (n := 7) (Nat.le_of_ble_eq_true rfl)
  rw [lg_entry_eq]
  generalize (lg_sl ([.ref (E.1 + 21), .ref (E.1 + k)]) ++ List.replicate (7 - (lg_sl ([.ref (E.1 + 21), .ref (E.1 + k)])).length) Slot.unset).toArray = ls at hl ⊢
  have hl : lv_has ls 7 [(0, .ref (E.1 + 21)), (1, .ref (E.1 + k))] := hl
  have hcap := hk.cap
  have hwh := hk.where
  refine lv_iconst (v := 0) hx hb dX0_judgeText_0 (by decide) ?_
  refine lv_istore_n (lv' := [(2, .int 0), (0, .ref (E.1 + 21)), (1, .ref (E.1 + k))]) hx hb dX0_judgeText_1 rfl hl (by decide) rfl (fun ls hl => ?_)
  refine lv_iconst (v := 1) hx hb dX0_judgeText_2 (by decide) ?_
  refine lv_istore_n (lv' := [(3, .int 1), (2, .int 0), (0, .ref (E.1 + 21)), (1, .ref (E.1 + k))]) hx hb dX0_judgeText_3 rfl hl (by decide) rfl (fun ls hl => ?_)
  refine lv_aload_n hx hb dX0_judgeText_4 rfl (lv_at hl 2 rfl) ?_
  refine lv_iconst (v := 0) hx hb dX0_judgeText_5 (by decide) ?_
  refine w_pi 0 1 (T := TX0) (N := 2) hx hb hts in0 tyX0 tyX0_ok nmX0 hown hK.1 hM hS (by decide) (by decide) (by decide) (by decide) (by decide) rfl (by decide) k15 rfl rfl rfl rfl dX0_judgeText_6 (fun H locs hM hS => ?_)
  generalize hV6 : up2 V 21 1 0 = V6 at hM
  refine lv_iconst (v := 0) hx hb dX0_judgeText_9 (by decide) ?_
  refine lv_istore (lv' := [(4, .int 0), (3, .int 1), (2, .int 0), (0, .ref (E.1 + 21)), (1, .ref (E.1 + k))]) hx hb dX0_judgeText_10 hl (by decide) rfl (fun ls hl => ?_)
  have loop12 : ∀ (fu : Nat) (Vw : Vt) (H : Heap) (locs : List Loc) (ls : Array Slot) (t : Nat) (x : Int32) (o : Int32) (a : Int32) (ob : Bool) (ab : Bool) (p0 : Nat) (ex : x = nI t) (ht : t ≤ b.length + 1) (eo : o = b2i ob) (ea : a = b2i ab) (htx : txt (V 22) b (b.length + 1 - t) p0 ob ab = truth (V 22) b) (hpb : p0 ≤ 10 * t) (hpos : Vw 21 1 = nI p0) (hf : ∀ j, j ≠ 21 → Vw j = V j), b.length + 1 - t < fu → Wd E Vw H → va_S (AE E) s.heap H locs → lv_has ls 7 [(0, .ref (E.1 + 21)), (1, .ref (E.1 + k)), (2, .int o), (3, .int a), (4, .int x)] → W p l e (headSpec wsX0_judgeText (rmD 3)).room s m ([.ref (E.1 + 21), .ref (E.1 + k)] : List Value).toArray below meth c H locs 0 0 (MQ below (QI E (fun V' => Wd E V') (fun r V' => r = truth (V 22) b ∧ ∀ j, j ≠ 21 → V' j = V j)) ([.ref (E.1 + 21), .ref (E.1 + k)] : List Value).toArray s 0 0 (AE E)) (F0 m 12 ls []) := by
    intro fu
    induction fu with
    | zero => intros; omega
    | succ fu ih =>
      intro Vw H locs ls t x o a ob ab p0 ex ht eo ea htx hpb hpos hf hfu hM hS hl
      have hrw : rowIs Vw k b := hr0.keep (hf k (by omega)) (hf (k + 1) (by omega))
      have e22 : Vw 22 = V 22 := hf 22 (by decide)
      refine lv_iload hx hb dX0_judgeText_12 (lv_at hl 4 rfl) ?_
      refine lv_aload_n hx hb dX0_judgeText_14 rfl (lv_at hl 1 rfl) ?_
      refine w_gi 3 1 (T := TX3) (N := 2) hx hb hts in3 hown hK.1 hM (hk).lt (hk).k (hk).n (hk).f1 (by decide) rfl (by decide) k19 rfl dX0_judgeText_15 ?_
      have q : (Vw k 1 : Int32) = nI b.length := hrw.1
      refine lv_eqi q ?_
      refine lv_icmp_gt (tgt := 133) hx hb dX0_judgeText_18 (by decide) (fun c_18 => ?_) (fun c_18 => ?_)
      · refine lv_iconst (v := (-1)) hx hb dX0_judgeText_133 (by decide) ?_
        exact w_iret Vw hx hb hret hK hS hM (⟨by have h9 : t = b.length + 1 := (by rw [ex] at c_18; have := (nI_ltI (by omega) (by omega)).mp c_18; omega); subst h9; rw [← htx, show b.length + 1 - (b.length + 1) = 0 by omega]; rfl, hf⟩) hlocks dX0_judgeText_134
      · have hlt : t ≤ b.length := by rw [ex] at c_18; exact Nat.not_lt.mp (fun q => c_18 (nI_lt q (by omega)))
        refine lv_aload_n hx hb dX0_judgeText_21 rfl (lv_at hl 0 rfl) ?_
        refine lv_aload_n hx hb dX0_judgeText_22 rfl (lv_at hl 1 rfl) ?_
        refine w_cVi (C := RX0) (As := [.ref (E.1 + k)]) (rest := []) ⟨hx, hb, hml, hown, hts⟩ (c_X0_judgeTest l hk hrw hbl hpos (by omega)) (cwV 1 hts gX0_judgeText_X0_judgeTest rfl rfl rfl (by decide +kernel) ⟨Nat.le_of_ble_eq_true rfl, Nat.le_of_ble_eq_true rfl⟩) (w_recv (ci := 0) hK hM (by decide) (by decide) (by decide) rfl) hM hK hS rfl hl.1 rfl (lv_room (Nat.le_of_ble_eq_true rfl)) dX0_judgeText_23 ⟨Nat.le_of_ble_eq_true rfl, Nat.le_of_ble_eq_true rfl⟩ (fun r23 V23 H locs hp23 hM hS => ?_)
        refine lv_istore (lv' := [(5, .int r23), (0, .ref (E.1 + 21)), (1, .ref (E.1 + k)), (2, .int o), (3, .int a), (4, .int x)]) hx hb dX0_judgeText_26 hl (by decide) rfl (fun ls hl => ?_)
        refine lv_iload hx hb dX0_judgeText_28 (lv_at hl 0 rfl) ?_
        refine lv_iconst (v := (-1)) hx hb dX0_judgeText_30 (by decide) ?_
        refine lv_icmp_ne (tgt := 36) hx hb dX0_judgeText_31 (by decide) (fun c_31 => ?_) (fun c_31 => ?_)
        · obtain ⟨⟨rb, pq⟩, hz⟩ : ∃ z, tst (V 22) b p0 = some z := by
            cases hq : tst (V 22) b p0 with
            | none => exact absurd (hp23.2.1 (by rw [e22]; exact hq)) c_31
            | some z => exact ⟨z, rfl⟩
          obtain ⟨hz1, hz2⟩ := hp23.1 rb pq (by rw [e22]; exact hz)
          have hpq := tst_le hz
          refine lv_iload_n hx hb dX0_judgeText_36 rfl (lv_at hl 4 rfl) ?_
          have join51 : ∀ (Va : Vt) (H : Heap) (locs : List Loc) (ls : Array Slot) (a2 : Int32) (ea2 : a2 = b2i (ab && rb)) (eVa : Va = V23), Wd E Va H → va_S (AE E) s.heap H locs → lv_has ls 7 [(0, .ref (E.1 + 21)), (1, .ref (E.1 + k)), (2, .int o), (4, .int x)] → W p l e (headSpec wsX0_judgeText (rmD 3)).room s m ([.ref (E.1 + 21), .ref (E.1 + k)] : List Value).toArray below meth c H locs 0 0 (MQ below (QI E (fun V' => Wd E V') (fun r V' => r = truth (V 22) b ∧ ∀ j, j ≠ 21 → V' j = V j)) ([.ref (E.1 + 21), .ref (E.1 + k)] : List Value).toArray s 0 0 (AE E)) (F0 m 51 ls [.int a2]) := by
            intro Va H locs ls a2 ea2 eVa hM hS hl
            have hr3 : rowIs Va k b := by rw [eVa]; exact hrw.keep (hp23.2.2 k (by omega)) (hp23.2.2 (k + 1) (by omega))
            refine lv_istore_n (lv' := [(3, .int a2), (0, .ref (E.1 + 21)), (1, .ref (E.1 + k)), (2, .int o), (4, .int x)]) hx hb dX0_judgeText_51 rfl hl (by decide) rfl (fun ls hl => ?_)
            refine lv_aload_n hx hb dX0_judgeText_52 rfl (lv_at hl 2 rfl) ?_
            refine lv_aload_n hx hb dX0_judgeText_53 rfl (lv_at hl 1 rfl) ?_
            refine w_gi 0 1 (T := TX0) (N := 2) hx hb hts in0 hown hK.1 hM (by decide) (by decide) (by decide) (by decide) (by decide) rfl (by decide) k15 rfl dX0_judgeText_54 ?_
            have q : (Va 21 1 : Int32) = nI pq := by rw [eVa]; exact hz2
            refine lv_eqi q ?_
            refine w_cVi (C := RX3) (As := [.int (nI pq)]) (rest := []) ⟨hx, hb, hml, hown, hts⟩ (c_X3_byteAt l hk hr3 hbl (nI pq)) (cwV 1 hts gX0_judgeText_X3_byteAt rfl rfl rfl (by decide +kernel) ⟨Nat.le_of_ble_eq_true rfl, Nat.le_of_ble_eq_true rfl⟩) (w_recv (ci := 3) hK hM (hk).lt (hk).k (by decide) rfl) hM hK hS rfl hl.1 rfl (lv_room (Nat.le_of_ble_eq_true rfl)) dX0_judgeText_57 ⟨Nat.le_of_ble_eq_true rfl, Nat.le_of_ble_eq_true rfl⟩ (fun r57 V57 H locs hp57 hM hS => ?_)
            obtain ⟨er57, eV⟩ := hp57
            rw [eV] at hM; clear eV
            have q : (r57 : Int32) = Bt b pq := er57.trans (Bt_eq (by omega) (by omega))
            refine lv_eqi q ?_
            refine lv_topi (fun x6_60 ex6_60 => ?_)
            refine lv_istore (lv' := [(6, .int x6_60), (3, .int a2), (0, .ref (E.1 + 21)), (1, .ref (E.1 + k)), (2, .int o), (4, .int x)]) hx hb dX0_judgeText_60 hl (by decide) rfl (fun ls hl => ?_)
            refine lv_aload_n hx hb dX0_judgeText_62 rfl (lv_at hl 2 rfl) ?_
            refine lv_dup hx hb dX0_judgeText_63 rfl ?_
            refine w_gi 0 1 (T := TX0) (N := 2) hx hb hts in0 hown hK.1 hM (by decide) (by decide) (by decide) (by decide) (by decide) rfl (by decide) k15 rfl dX0_judgeText_64 ?_
            have q : (Va 21 1 : Int32) = nI pq := by rw [eVa]; exact hz2
            refine lv_eqi q ?_
            refine lv_iconst (v := 1) hx hb dX0_judgeText_67 (by decide) ?_
            refine lv_iadd hx hb dX0_judgeText_68 ?_
            refine w_pi 0 1 (T := TX0) (N := 2) hx hb hts in0 tyX0 tyX0_ok nmX0 hown hK.1 hM hS (by decide) (by decide) (by decide) (by decide) (by decide) rfl (by decide) k15 rfl rfl rfl rfl dX0_judgeText_69 (fun H locs hM hS => ?_)
            generalize hV69 : up2 Va 21 1 ((nI pq) + 1) = V69 at hM
            refine lv_iload hx hb dX0_judgeText_72 (lv_at hl 0 rfl) ?_
            refine lv_bipush (v := 38) hx hb dX0_judgeText_74 (by decide) ?_
            have join95 : ∀ (Vc : Vt) (H : Heap) (locs : List Loc) (ls : Array Slot) (o2 : Int32) (a3 : Int32) (ob2 : Bool) (ab2 : Bool) (eo2 : o2 = b2i ob2) (ea3 : a3 = b2i ab2) (eVc : Vc = V69) (hcs : (x6_60 = 38 ∧ ob2 = ob ∧ ab2 = (ab && rb)) ∨ (¬ x6_60 = 38 ∧ ob2 = (ob || (ab && rb)) ∧ ab2 = true)), Wd E Vc H → va_S (AE E) s.heap H locs → lv_has ls 7 [(0, .ref (E.1 + 21)), (1, .ref (E.1 + k)), (2, .int o2), (3, .int a3), (4, .int x), (6, .int x6_60)] → W p l e (headSpec wsX0_judgeText (rmD 3)).room s m ([.ref (E.1 + 21), .ref (E.1 + k)] : List Value).toArray below meth c H locs 0 0 (MQ below (QI E (fun V' => Wd E V') (fun r V' => r = truth (V 22) b ∧ ∀ j, j ≠ 21 → V' j = V j)) ([.ref (E.1 + 21), .ref (E.1 + k)] : List Value).toArray s 0 0 (AE E)) (F0 m 95 ls []) := by
              intro Vc H locs ls o2 a3 ob2 ab2 eo2 ea3 eVc hcs hM hS hl
              have hpos2 : Vc 21 1 = nI (pq + 1) := by rw [eVc]; subst hV69; rw [up2_s]; exact nI_1 _
              have hf2 : ∀ j, j ≠ 21 → Vc j = V j := fun j hj => by rw [eVc]; subst hV69; rw [up2_k _ _ hj, eVa, hp23.2.2 j hj]; exact hf j hj
              have hstep := txt_s (f := b.length - t) (one := ob) (all := ab) hz
              rw [show b.length - t + 1 = b.length + 1 - t by omega, htx, ← ex6_60] at hstep
              refine lv_iload hx hb dX0_judgeText_95 (lv_at hl 5 rfl) ?_
              refine lv_iconst (v := (-1)) hx hb dX0_judgeText_97 (by decide) ?_
              refine lv_icmp_ne (tgt := 111) hx hb dX0_judgeText_98 (by decide) (fun c_98 => ?_) (fun c_98 => ?_)
              · refine lv_iload hx hb dX0_judgeText_111 (lv_at hl 5 rfl) ?_
                refine lv_bipush (v := 38) hx hb dX0_judgeText_113 (by decide) ?_
                refine lv_icmp_eq (tgt := 127) hx hb dX0_judgeText_115 (by decide) (fun c_115 => ?_) (fun c_115 => ?_)
                · have htx2 : (x6_60 = 38 → txt (V 22) b (b.length + 1 - (t + 1)) (pq + 1) ob2 ab2 = truth (V 22) b) ∧ (¬ x6_60 = 38 → x6_60 = 124 → txt (V 22) b (b.length + 1 - (t + 1)) (pq + 1) ob2 ab2 = truth (V 22) b) := by
                    rw [show b.length + 1 - (t + 1) = b.length - t by omega]
                    refine ⟨fun h => ?_, fun h h2 => ?_⟩
                    · rcases hcs with ⟨u1, u2, u3⟩ | ⟨u1, u2, u3⟩
                      · rw [if_pos h] at hstep; rw [u2, u3]; exact hstep.symm
                      · exact absurd h u1
                    · rcases hcs with ⟨u1, u2, u3⟩ | ⟨u1, u2, u3⟩
                      · exact absurd u1 h
                      · rw [if_neg h, if_neg (by rw [h2]; decide), if_pos h2] at hstep; rw [u2, u3]; exact hstep.symm
                  obtain ⟨x4_127, ex4_127⟩ : ∃ y : Int32, y = x + 1 := ⟨_, rfl⟩
                  refine lv_iinc (v := x4_127) (lv' := [(4, .int x4_127), (0, .ref (E.1 + 21)), (1, .ref (E.1 + k)), (2, .int o2), (3, .int a3), (6, .int x6_60)]) hx hb dX0_judgeText_127 hl (k := 4) rfl (by rw [ex4_127]; rfl) (by decide) rfl (fun ls hl => ?_)
                  refine lv_goto (tgt := 12) hx hb dX0_judgeText_130 (by decide) ?_
                  exact ih Vc _ _ _ (t + 1) _ _ _ ob2 ab2 (pq + 1) (by rw [ex4_127, ex, nI_1]) (by omega) eo2 ea3 (by first | exact (htx2.1 c_115) | exact (htx2.2 c_115 c_122)) (by omega) hpos2 hf2 (by omega) hM hS (lv_sub hl [1, 2, 3, 4, 0] rfl)
                · refine lv_iload hx hb dX0_judgeText_118 (lv_at hl 5 rfl) ?_
                  refine lv_bipush (v := 124) hx hb dX0_judgeText_120 (by decide) ?_
                  refine lv_icmp_eq (tgt := 127) hx hb dX0_judgeText_122 (by decide) (fun c_122 => ?_) (fun c_122 => ?_)
                  · have htx2 : (x6_60 = 38 → txt (V 22) b (b.length + 1 - (t + 1)) (pq + 1) ob2 ab2 = truth (V 22) b) ∧ (¬ x6_60 = 38 → x6_60 = 124 → txt (V 22) b (b.length + 1 - (t + 1)) (pq + 1) ob2 ab2 = truth (V 22) b) := by
                      rw [show b.length + 1 - (t + 1) = b.length - t by omega]
                      refine ⟨fun h => ?_, fun h h2 => ?_⟩
                      · rcases hcs with ⟨u1, u2, u3⟩ | ⟨u1, u2, u3⟩
                        · rw [if_pos h] at hstep; rw [u2, u3]; exact hstep.symm
                        · exact absurd h u1
                      · rcases hcs with ⟨u1, u2, u3⟩ | ⟨u1, u2, u3⟩
                        · exact absurd u1 h
                        · rw [if_neg h, if_neg (by rw [h2]; decide), if_pos h2] at hstep; rw [u2, u3]; exact hstep.symm
                    obtain ⟨x4_127, ex4_127⟩ : ∃ y : Int32, y = x + 1 := ⟨_, rfl⟩
                    refine lv_iinc (v := x4_127) (lv' := [(4, .int x4_127), (0, .ref (E.1 + 21)), (1, .ref (E.1 + k)), (2, .int o2), (3, .int a3), (6, .int x6_60)]) hx hb dX0_judgeText_127 hl (k := 4) rfl (by rw [ex4_127]; rfl) (by decide) rfl (fun ls hl => ?_)
                    refine lv_goto (tgt := 12) hx hb dX0_judgeText_130 (by decide) ?_
                    exact ih Vc _ _ _ (t + 1) _ _ _ ob2 ab2 (pq + 1) (by rw [ex4_127, ex, nI_1]) (by omega) eo2 ea3 (by first | exact (htx2.1 c_115) | exact (htx2.2 c_115 c_122)) (by omega) hpos2 hf2 (by omega) hM hS (lv_sub hl [1, 2, 3, 4, 0] rfl)
                  · refine lv_iconst (v := (-1)) hx hb dX0_judgeText_125 (by decide) ?_
                    exact w_iret Vc hx hb hret hK hS hM (⟨by rw [if_neg c_115, if_neg c_98, if_neg c_122] at hstep; exact hstep.symm, hf2⟩) hlocks dX0_judgeText_126
              · refine lv_iload_n hx hb dX0_judgeText_101 rfl (lv_at hl 2 rfl) ?_
                refine lv_if_eq (tgt := 109) hx hb dX0_judgeText_102 (by decide) (fun c_102 => ?_) (fun c_102 => ?_)
                · refine lv_iconst (v := 0) hx hb dX0_judgeText_109 (by decide) ?_
                  exact w_iret Vc hx hb hret hK hS hM (⟨by (rcases hcs with ⟨u1, u2, u3⟩ | ⟨u1, u2, u3⟩); (exact absurd (u1.symm.trans c_98) (by decide)); (rw [if_neg u1, if_pos c_98, ← u2] at hstep; rw [hstep]; first | (rw [eo2] at c_102; rw [b2i_eq0 c_102]; rfl) | (rw [eo2] at c_102; rw [b2i_ne0 c_102]; rfl)), hf2⟩) hlocks dX0_judgeText_110
                · refine lv_iconst (v := 1) hx hb dX0_judgeText_105 (by decide) ?_
                  refine lv_goto (tgt := 110) hx hb dX0_judgeText_106 (by decide) ?_
                  exact w_iret Vc hx hb hret hK hS hM (⟨by (rcases hcs with ⟨u1, u2, u3⟩ | ⟨u1, u2, u3⟩); (exact absurd (u1.symm.trans c_98) (by decide)); (rw [if_neg u1, if_pos c_98, ← u2] at hstep; rw [hstep]; first | (rw [eo2] at c_102; rw [b2i_eq0 c_102]; rfl) | (rw [eo2] at c_102; rw [b2i_ne0 c_102]; rfl)), hf2⟩) hlocks dX0_judgeText_110
            refine lv_icmp_eq (tgt := 95) hx hb dX0_judgeText_76 (by decide) (fun c_76 => ?_) (fun c_76 => ?_)
            · exact join95 V69 _ _ _ _ _ ob (ab && rb) eo ea2 rfl (Or.inl ⟨c_76, rfl, rfl⟩) hM hS (lv_sub hl [2, 3, 4, 1, 5, 0] rfl)
            · refine lv_iload_n hx hb dX0_judgeText_79 rfl (lv_at hl 4 rfl) ?_
              have join92 : ∀ (Vb : Vt) (H : Heap) (locs : List Loc) (ls : Array Slot) (o3 : Int32) (eo3 : o3 = b2i (ob || (ab && rb))) (eVb : Vb = V69), Wd E Vb H → va_S (AE E) s.heap H locs → lv_has ls 7 [(0, .ref (E.1 + 21)), (1, .ref (E.1 + k)), (4, .int x), (6, .int x6_60)] → W p l e (headSpec wsX0_judgeText (rmD 3)).room s m ([.ref (E.1 + 21), .ref (E.1 + k)] : List Value).toArray below meth c H locs 0 0 (MQ below (QI E (fun V' => Wd E V') (fun r V' => r = truth (V 22) b ∧ ∀ j, j ≠ 21 → V' j = V j)) ([.ref (E.1 + 21), .ref (E.1 + k)] : List Value).toArray s 0 0 (AE E)) (F0 m 92 ls [.int o3]) := by
                intro Vb H locs ls o3 eo3 eVb hM hS hl
                refine lv_istore_n (lv' := [(2, .int o3), (0, .ref (E.1 + 21)), (1, .ref (E.1 + k)), (4, .int x), (6, .int x6_60)]) hx hb dX0_judgeText_92 rfl hl (by decide) rfl (fun ls hl => ?_)
                refine lv_iconst (v := 1) hx hb dX0_judgeText_93 (by decide) ?_
                refine lv_istore_n (lv' := [(3, .int 1), (2, .int o3), (0, .ref (E.1 + 21)), (1, .ref (E.1 + k)), (4, .int x), (6, .int x6_60)]) hx hb dX0_judgeText_94 rfl hl (by decide) rfl (fun ls hl => ?_)
                exact join95 Vb _ _ _ _ _ (ob || (ab && rb)) true eo3 rfl eVb (Or.inr ⟨c_76, rfl, rfl⟩) hM hS (lv_sub hl [2, 3, 1, 0, 4, 5] rfl)
              refine lv_if_ne (tgt := 87) hx hb dX0_judgeText_80 (by decide) (fun c_80 => ?_) (fun c_80 => ?_)
              · refine lv_iconst (v := 1) hx hb dX0_judgeText_87 (by decide) ?_
                refine lv_goto (tgt := 92) hx hb dX0_judgeText_88 (by decide) ?_
                exact join92 V69 _ _ _ _ (by first | exact ((b2i_or eo ea2).1 c_80).symm | exact ((b2i_or eo ea2).2.1 c_80 c_84).symm | exact ((b2i_or eo ea2).2.2 c_80 c_84).symm) rfl hM hS (lv_sub hl [2, 3, 5, 0] rfl)
              · refine lv_iload_n hx hb dX0_judgeText_83 rfl (lv_at hl 1 rfl) ?_
                refine lv_if_eq (tgt := 91) hx hb dX0_judgeText_84 (by decide) (fun c_84 => ?_) (fun c_84 => ?_)
                · refine lv_iconst (v := 0) hx hb dX0_judgeText_91 (by decide) ?_
                  exact join92 V69 _ _ _ _ (by first | exact ((b2i_or eo ea2).1 c_80).symm | exact ((b2i_or eo ea2).2.1 c_80 c_84).symm | exact ((b2i_or eo ea2).2.2 c_80 c_84).symm) rfl hM hS (lv_sub hl [2, 3, 5, 0] rfl)
                · refine lv_iconst (v := 1) hx hb dX0_judgeText_87 (by decide) ?_
                  refine lv_goto (tgt := 92) hx hb dX0_judgeText_88 (by decide) ?_
                  exact join92 V69 _ _ _ _ (by first | exact ((b2i_or eo ea2).1 c_80).symm | exact ((b2i_or eo ea2).2.1 c_80 c_84).symm | exact ((b2i_or eo ea2).2.2 c_80 c_84).symm) rfl hM hS (lv_sub hl [2, 3, 5, 0] rfl)
          refine lv_if_eq (tgt := 50) hx hb dX0_judgeText_37 (by decide) (fun c_37 => ?_) (fun c_37 => ?_)
          · refine lv_iconst (v := 0) hx hb dX0_judgeText_50 (by decide) ?_
            exact join51 V23 _ _ _ _ (by first | exact ((b2i_and ea hz1).1 c_37).symm | exact ((b2i_and ea hz1).2.1 c_37 c_43).symm | exact ((b2i_and ea hz1).2.2 c_37 c_43).symm) rfl hM hS (lv_sub hl [1, 2, 3, 5] rfl)
          · refine lv_iload hx hb dX0_judgeText_40 (lv_at hl 0 rfl) ?_
            refine lv_iconst (v := 1) hx hb dX0_judgeText_42 (by decide) ?_
            refine lv_icmp_ne (tgt := 50) hx hb dX0_judgeText_43 (by decide) (fun c_43 => ?_) (fun c_43 => ?_)
            · refine lv_iconst (v := 0) hx hb dX0_judgeText_50 (by decide) ?_
              exact join51 V23 _ _ _ _ (by first | exact ((b2i_and ea hz1).1 c_37).symm | exact ((b2i_and ea hz1).2.1 c_37 c_43).symm | exact ((b2i_and ea hz1).2.2 c_37 c_43).symm) rfl hM hS (lv_sub hl [1, 2, 3, 5] rfl)
            · refine lv_iconst (v := 1) hx hb dX0_judgeText_46 (by decide) ?_
              refine lv_goto (tgt := 51) hx hb dX0_judgeText_47 (by decide) ?_
              exact join51 V23 _ _ _ _ (by first | exact ((b2i_and ea hz1).1 c_37).symm | exact ((b2i_and ea hz1).2.1 c_37 c_43).symm | exact ((b2i_and ea hz1).2.2 c_37 c_43).symm) rfl hM hS (lv_sub hl [1, 2, 3, 5] rfl)
        · have hno : tst (V 22) b p0 = none := by
            cases hq : tst (V 22) b p0 with
            | none => rfl
            | some z => obtain ⟨z1, z2⟩ := z; have h9 := (hp23.1 z1 z2 (by rw [e22]; exact hq)).1; rw [c_31] at h9; cases z1 <;> exact absurd h9 (by decide)
          refine lv_iconst (v := (-1)) hx hb dX0_judgeText_34 (by decide) ?_
          exact w_iret V23 hx hb hret hK hS hM (⟨by rw [← htx, show b.length + 1 - t = (b.length - t) + 1 by omega, txt_n hno], fun j hj => (hp23.2.2 j hj).trans (hf j hj)⟩) hlocks dX0_judgeText_35
  exact loop12 _ V6 _ _ _ 0 0 0 1 false true 0 (rfl) (Nat.zero_le _) (rfl) (rfl) (rfl) (Nat.le_refl _) (by subst hV6; rw [up2_s]; rfl) (fun i hi => by subst hV6; exact up2_k _ _ hi) (Nat.lt_succ_self _) hM hS (lv_sub hl [3, 4, 2, 1, 0] rfl)
end
section
/-! TOKENS: a limit is a text and a lock (none: []); a token is a name, a sign, and limits -/
abbrev Lm : Type := List Int32 × List Int32
abbrev Tk : Type := List Int32 × List Int32 × List Lm
def lz : Lm := ([], [])
def limIs (V : Vt) (b : Nat) (L : Lm) : Prop := rowIs V (b + 1) L.1 ∧ rowIs V (b + 3) L.2
def okL (l : List Int32) : Prop := ∀ x ∈ l, 0 ≤ x
def okLm (L : Lm) : Prop := 1 ≤ L.1.length ∧ L.1.length ≤ 60 ∧ (L.2 = [] ∨ L.2.length = 32) ∧ okL L.1 ∧ okL L.2
def tokIs (V : Vt) (b : Nat) (T : Tk) : Prop := rowIs V (b + 1) T.1 ∧ rowIs V (b + 3) T.2.1 ∧ V b 3 = nI T.2.2.length ∧ ∀ i, i < T.2.2.length → limIs V (b + 6 + 5 * i) (T.2.2.getD i lz)
def okTk (T : Tk) : Prop := (1 ≤ T.1.length ∧ T.1.length ≤ 60 ∧ okL T.1) ∧ (T.2.1.length = 32 ∧ okL T.2.1) ∧ T.2.2.length ≤ 10 ∧ ∀ i, i < T.2.2.length → okLm (T.2.2.getD i lz)
/-- nothing outside lo .. hi has changed -/
def frI (V V' : Vt) (lo hi : Nat) : Prop := ∀ j, (j < lo ∨ hi < j) → V' j = V j
theorem frI.rf {V : Vt} {lo hi : Nat} : frI V V lo hi := fun _ _ => rfl
theorem frI.trans {V V' V'' : Vt} {lo hi : Nat} (h : frI V V' lo hi) (h' : frI V' V'' lo hi) : frI V V'' lo hi := fun j a => (h' j a).trans (h j a)
theorem frR.toI {V V' : Vt} {k lo hi : Nat} (h : frR V V' k) (h1 : lo ≤ k ∧ k + 1 ≤ hi) : frI V V' lo hi := fun j a => h j (by omega) (by omega)
theorem frI.wide {V V' : Vt} {lo hi lo2 hi2 : Nat} (h : frI V V' lo hi) (h1 : lo2 ≤ lo ∧ hi ≤ hi2) : frI V V' lo2 hi2 := fun j a => h j (by omega)
theorem frI.up {V V' : Vt} {lo hi : Nat} (h : frI V V' lo hi) {k : Nat} (hk : lo ≤ k ∧ k ≤ hi) (i : Nat) (x : Int32) : frI V (up2 V' k i x) lo hi := fun j a => by rw [up2_k _ _ (by omega)]; exact h j a
theorem rowIs.otherI {V V' : Vt} {lo hi k : Nat} {l : List Int32} (h : rowIs V k l) (f : frI V V' lo hi) (h1 : k + 1 < lo ∨ hi < k) : rowIs V' k l := h.keep (f k (by omega)) (f (k + 1) (by omega))
theorem limIs.otherI {V V' : Vt} {lo hi b : Nat} {L : Lm} (h : limIs V b L) (f : frI V V' lo hi) (h1 : b + 4 < lo ∨ hi < b) : limIs V' b L := ⟨h.1.otherI f (by omega), h.2.otherI f (by omega)⟩
theorem tokIs.otherI {V V' : Vt} {lo hi b : Nat} {T : Tk} (h : tokIs V b T) (hl : T.2.2.length ≤ 10) (f : frI V V' lo hi) (h1 : b + 55 < lo ∨ hi < b) : tokIs V' b T := ⟨h.1.otherI f (by omega), h.2.1.otherI f (by omega), by rw [f b (by omega)]; exact h.2.2.1, fun i hi => (h.2.2.2 i hi).otherI f (by omega)⟩
def isTok (b : Nat) : Prop := 25 ≤ b ∧ b + 55 < 610 ∧ sk b = 6 ∧ sn b = 5 ∧ sf b 0 = some (b + 1) ∧ sf b 1 = some (b + 3) ∧ sf b 2 = some (b + 5) ∧ sf b 3 = none ∧ sf b 4 = none ∧ isRow (b + 1) 60 ∧ isRow (b + 3) 32 ∧ sk (b + 5) = 11 ∧ sn (b + 5) = 10 ∧ ∀ j, j < 10 → sf (b + 5) j = some (b + 6 + 5 * j) ∧ isLim (b + 6 + 5 * j)
theorem isTok.lo {b : Nat} (h : isTok b) : 25 ≤ b := h.1
theorem isTok.hi {b : Nat} (h : isTok b) : b + 55 < 610 := h.2.1
theorem isTok.lt {b : Nat} (h : isTok b) : b < 610 := by have := h.2.1; omega
theorem isTok.k {b : Nat} (h : isTok b) : sk b = 6 := h.2.2.1
theorem isTok.n {b : Nat} (h : isTok b) : sn b = 5 := h.2.2.2.1
theorem isTok.f0 {b : Nat} (h : isTok b) : sf b 0 = some (b + 1) := h.2.2.2.2.1
theorem isTok.f1 {b : Nat} (h : isTok b) : sf b 1 = some (b + 3) := h.2.2.2.2.2.1
theorem isTok.f2 {b : Nat} (h : isTok b) : sf b 2 = some (b + 5) := h.2.2.2.2.2.2.1
theorem isTok.f3 {b : Nat} (h : isTok b) : sf b 3 = none := h.2.2.2.2.2.2.2.1
theorem isTok.f4 {b : Nat} (h : isTok b) : sf b 4 = none := h.2.2.2.2.2.2.2.2.1
theorem isTok.name {b : Nat} (h : isTok b) : isRow (b + 1) 60 := h.2.2.2.2.2.2.2.2.2.1
theorem isTok.sign {b : Nat} (h : isTok b) : isRow (b + 3) 32 := h.2.2.2.2.2.2.2.2.2.2.1
theorem isTok.k5 {b : Nat} (h : isTok b) : sk (b + 5) = 11 := h.2.2.2.2.2.2.2.2.2.2.2.1
theorem isTok.n5 {b : Nat} (h : isTok b) : sn (b + 5) = 10 := h.2.2.2.2.2.2.2.2.2.2.2.2.1
theorem isTok.lt5 {b : Nat} (h : isTok b) : b + 5 < 610 := by have := h.2.1; omega
theorem isTok.fl {b : Nat} (h : isTok b) {j : Nat} (hj : j < 10) : sf (b + 5) j = some (b + 6 + 5 * j) := (h.2.2.2.2.2.2.2.2.2.2.2.2.2 j hj).1
theorem isTok.lim {b : Nat} (h : isTok b) {j : Nat} (hj : j < 10) : isLim (b + 6 + 5 * j) := (h.2.2.2.2.2.2.2.2.2.2.2.2.2 j hj).2
set_option maxRecDepth 20000 in
theorem tk_r1 : ∀ t, t < 8 → isRow (25 + 60 * t + 1) 60 ∧ isRow (25 + 60 * t + 3) 32 := by unfold isRow; decide +kernel
set_option maxRecDepth 20000 in
theorem tk_r2 : ∀ t, t < 8 → ∀ j, j < 10 → isRow (25 + 60 * t + 6 + 5 * j + 1) 60 := by unfold isRow; decide +kernel
set_option maxRecDepth 20000 in
theorem tk_r3 : ∀ t, t < 8 → ∀ j, j < 10 → isRow (25 + 60 * t + 6 + 5 * j + 3) 32 := by unfold isRow; decide +kernel
set_option maxRecDepth 20000 in
theorem tk_l : ∀ t, t < 8 → ∀ j, j < 10 → sk (25 + 60 * t + 6 + 5 * j) = 1 ∧ sn (25 + 60 * t + 6 + 5 * j) = 2 ∧ sf (25 + 60 * t + 6 + 5 * j) 0 = some (25 + 60 * t + 6 + 5 * j + 1) ∧ sf (25 + 60 * t + 6 + 5 * j) 1 = some (25 + 60 * t + 6 + 5 * j + 3) ∧ sf (25 + 60 * t + 5) j = some (25 + 60 * t + 6 + 5 * j) := by decide +kernel
set_option maxRecDepth 20000 in
theorem tk_o : ∀ t, t < 8 → sk (25 + 60 * t) = 6 ∧ sn (25 + 60 * t) = 5 ∧ sf (25 + 60 * t) 0 = some (25 + 60 * t + 1) ∧ sf (25 + 60 * t) 1 = some (25 + 60 * t + 3) ∧ sf (25 + 60 * t) 2 = some (25 + 60 * t + 5) ∧ sf (25 + 60 * t) 3 = none ∧ sf (25 + 60 * t) 4 = none ∧ sk (25 + 60 * t + 5) = 11 ∧ sn (25 + 60 * t + 5) = 10 := by decide +kernel
theorem tk_s1 : isRow (508 + 1) 60 ∧ isRow (508 + 3) 32 := by unfold isRow; decide +kernel
theorem tk_s2 : ∀ j, j < 10 → isRow (508 + 6 + 5 * j + 1) 60 := by unfold isRow; decide +kernel
theorem tk_s3 : ∀ j, j < 10 → isRow (508 + 6 + 5 * j + 3) 32 := by unfold isRow; decide +kernel
theorem tk_sl : ∀ j, j < 10 → sk (508 + 6 + 5 * j) = 1 ∧ sn (508 + 6 + 5 * j) = 2 ∧ sf (508 + 6 + 5 * j) 0 = some (508 + 6 + 5 * j + 1) ∧ sf (508 + 6 + 5 * j) 1 = some (508 + 6 + 5 * j + 3) ∧ sf (508 + 5) j = some (508 + 6 + 5 * j) := by decide +kernel
theorem tok_t {t : Nat} (h : t < 8) : isTok (25 + 60 * t) := by
  obtain ⟨o1, o2, o3, o4, o5, o6, o7, o8, o9⟩ := tk_o t h
  exact ⟨by omega, by omega, o1, o2, o3, o4, o5, o6, o7, (tk_r1 t h).1, (tk_r1 t h).2, o8, o9, fun j hj => ⟨(tk_l t h j hj).2.2.2.2, by omega, (tk_l t h j hj).1, (tk_l t h j hj).2.1, (tk_l t h j hj).2.2.1, (tk_l t h j hj).2.2.2.1, tk_r2 t h j hj, tk_r3 t h j hj⟩⟩
theorem tok_sp : isTok 508 :=
  ⟨by decide, by decide, by decide, by decide, by decide, by decide, by decide, by decide, by decide, tk_s1.1, tk_s1.2, by decide, by decide, fun j hj => ⟨(tk_sl j hj).2.2.2.2, by omega, (tk_sl j hj).1, (tk_sl j hj).2.1, (tk_sl j hj).2.2.1, (tk_sl j hj).2.2.2.1, tk_s2 j hj, tk_s3 j hj⟩⟩
def limB (L : Lm) : List Int32 := ([2, nI L.1.length] ++ L.1) ++ ((if L.2 = [] then [] else [4, 32] ++ L.2) ++ [0])
def tokB (T : Tk) : List Int32 := (([2, 2, nI T.1.length] ++ T.1) ++ [0]) ++ T.2.2.flatMap limB ++ ([0, 6, 32] ++ T.2.1)
theorem limB_len {L : Lm} (h : okLm L) : (limB L).length ≤ 97 := by
  obtain ⟨h1, h2, h3, -, -⟩ := h
  unfold limB
  by_cases e : L.2 = []
  · simp [e]; omega
  · rcases h3 with h3 | h3
    · exact absurd h3 e
    · simp [e, h3]; omega
theorem flatB_len : ∀ (Ls : List Lm), (∀ i, i < Ls.length → okLm (Ls.getD i lz)) → (Ls.flatMap limB).length ≤ 97 * Ls.length
  | [], _ => by simp
  | L :: Ls, h => by
    have h1 := limB_len (h 0 (by simp))
    have h2 := flatB_len Ls (fun i hi => by have := h (i + 1) (by simp; omega); simpa using this)
    simp only [List.getD_cons_zero] at h1
    simp only [List.flatMap_cons, List.length_append, List.length_cons]
    omega
theorem take_flat {Ls : List Lm} {j : Nat} (hj : j < Ls.length) : (Ls.take (j + 1)).flatMap limB = (Ls.take j).flatMap limB ++ limB (Ls.getD j lz) := by
  rw [List.take_succ_eq_append_getElem hj, List.flatMap_append, List.getD_eq_getElem?_getD, List.getElem?_eq_getElem hj]
  simp
theorem getD_take {Ls : List Lm} {i j : Nat} (h : i < j) : (Ls.take j).getD i lz = Ls.getD i lz := by
  simp [List.getD_eq_getElem?_getD, List.getElem?_take, h]
theorem take_len {Ls : List Lm} {j : Nat} (hok : ∀ i, i < Ls.length → okLm (Ls.getD i lz)) (hj : j ≤ Ls.length) : ((Ls.take j).flatMap limB).length ≤ 97 * j := by
  have h := flatB_len (Ls.take j) (fun i hi => by rw [List.length_take] at hi; rw [getD_take (by omega)]; exact hok i (by omega))
  rw [List.length_take] at h
  rw [show min j Ls.length = j by omega] at h
  exact h
end
section
theorem len0 {l : List Int32} (h : l.length < 2 ^ 31) : (nI l.length ≤ 0 → l = []) ∧ (¬ nI l.length ≤ 0 → ¬ l = []) := by
  refine ⟨fun q => ?_, fun q e => q (by rw [e]; decide)⟩
  have := (nI_leI (a := l.length) (b := 0) h (by omega)).mp q
  exact List.length_eq_zero_iff.mp (by omega)
set_option maxHeartbeats 4000000 in
set_option maxRecDepth 100000 in
theorem c_X1_isOfOthers (l : Launch) {E : En} {V : Vt} {b : Nat} (hb1 : isLim b) {lo : List Int32} (hr : rowIs V (b + 3) lo) (hl0 : lo.length ≤ 32) : CI l yX1_isOfOthers wsX1_isOfOthers 0 E V [.ref (E.1 + b)] (fun r V' => r = (if lo = [] then 0 else 1) ∧ V' = V) := by
  refine Met.ofW (cc := cX1_isOfOthers) (maxL := 1) (ret := (some .boolean)) (by decide) rfl ?_
  intro p e s m args below meth c s₁ B hml hv
  obtain ⟨rfl, hM, hK⟩ := hv
  have hx := B.exec
  have hb := B.bytes
  have hret := B.returns
  have hts := atoms_spec (ws := wsX1_isOfOthers) B.pre
  have hown : s.vm.findClass RX1 = some m.cls := findClass_of_methodNamed B.named
  have hlocks := B.notSynchronized
  have hsz : s.heap.size = E.1 + 610 := hM.1
  have hS : va_S (AE E) s.heap s.heap [] := va_S.rf
  have in1 : ∀ w ∈ u_ws RX1 TX1 2, w ∈ wsX1_isOfOthers := by decide +kernel
  have in3 : ∀ w ∈ u_ws RX3 TX3 2, w ∈ wsX1_isOfOthers := by decide +kernel
  have k20 := hts (.fieldLink RX1 20 "LimitTokens$Limit" "lock" "LLimitTokens$Row;") (by decide +kernel)
  have k23 := hts (.fieldLink RX1 23 "LimitTokens$Row" "length" "I") (by decide +kernel)
  have hl := lv_entry ([.ref (E.1 + b)]) (n := 1) (Nat.le_of_ble_eq_true rfl)
  rw [lg_entry_eq]
  generalize (lg_sl ([.ref (E.1 + b)]) ++ List.replicate (1 - (lg_sl ([.ref (E.1 + b)])).length) Slot.unset).toArray = ls at hl ⊢
  have hl : lv_has ls 1 [(0, .ref (E.1 + b))] := hl
  refine lv_aload_n hx hb dX1_isOfOthers_0 rfl (lv_at hl 0 rfl) ?_
  refine w_gr 1 1 (b + 3) (T := TX1) (N := 2) hx hb hts in1 hown hK.1 hM (hb1).lt (hb1).k (hb1).n (hb1).f1 (by decide) rfl (by decide) k20 rfl dX1_isOfOthers_1 ?_
  refine w_gi 3 1 (T := TX3) (N := 2) hx hb hts in3 hown hK.1 hM ((hb1).lock).lt ((hb1).lock).k ((hb1).lock).n ((hb1).lock).f1 (by decide) rfl (by decide) k23 rfl dX1_isOfOthers_4 ?_
  have q : (V (b + 3) 1 : Int32) = nI lo.length := hr.1
  refine lv_eqi q ?_
  refine lv_if_le (tgt := 14) hx hb dX1_isOfOthers_7 (by decide) (fun c_7 => ?_) (fun c_7 => ?_)
  · refine lv_iconst (v := 0) hx hb dX1_isOfOthers_14 (by decide) ?_
    exact w_zret V hx hb hret hK hS hM (⟨by (have h0 := @len0 lo (by omega)); (first | (rw [if_pos (h0.1 c_7)]) | (rw [if_neg (h0.2 c_7)])), rfl⟩) (rfl) hlocks dX1_isOfOthers_15
  · refine lv_iconst (v := 1) hx hb dX1_isOfOthers_10 (by decide) ?_
    refine lv_goto (tgt := 15) hx hb dX1_isOfOthers_11 (by decide) ?_
    exact w_zret V hx hb hret hK hS hM (⟨by (have h0 := @len0 lo (by omega)); (first | (rw [if_pos (h0.1 c_7)]) | (rw [if_neg (h0.2 c_7)])), rfl⟩) (rfl) hlocks dX1_isOfOthers_15

set_option maxHeartbeats 4000000 in
set_option maxRecDepth 100000 in
theorem c_X1_takeOver (l : Launch) {E : En} {V : Vt} {b b2 : Nat} (hb1 : isLim b) (hb2 : isLim b2) (hd : b = b2 ∨ b + 4 < b2 ∨ b2 + 4 < b) {L : Lm} (hL : limIs V b2 L) (h1 : L.1.length ≤ 60) (h2 : L.2.length ≤ 32) : CV l yX1_takeOver wsX1_takeOver 3 E V [.ref (E.1 + b), .ref (E.1 + b2)] (fun V' => limIs V' b L ∧ frI V V' (b + 1) (b + 4)) := by
  refine Met.ofW (cc := cX1_takeOver) (maxL := 2) (ret := none) (by decide) rfl ?_
  intro p e s m args below meth c s₁ B hml hv
  obtain ⟨rfl, hM, hK⟩ := hv
  have hx := B.exec
  have hb := B.bytes
  have hret := B.returns
  have hts := atoms_spec (ws := wsX1_takeOver) B.pre
  have hown : s.vm.findClass RX1 = some m.cls := findClass_of_methodNamed B.named
  have hlocks := B.notSynchronized
  have hsz : s.heap.size = E.1 + 610 := hM.1
  have hS : va_S (AE E) s.heap s.heap [] := va_S.rf
  have in1 : ∀ w ∈ u_ws RX1 TX1 2, w ∈ wsX1_takeOver := by decide +kernel
  have k14 := hts (.fieldLink RX1 14 "LimitTokens$Limit" "text" "LLimitTokens$Row;") (by decide +kernel)
  have k20 := hts (.fieldLink RX1 20 "LimitTokens$Limit" "lock" "LLimitTokens$Row;") (by decide +kernel)
  have hl := lv_entry ([.ref (E.1 + b), .ref (E.1 + b2)]) (n := 2) (Nat.le_of_ble_eq_true rfl)
  rw [lg_entry_eq]
  generalize (lg_sl ([.ref (E.1 + b), .ref (E.1 + b2)]) ++ List.replicate (2 - (lg_sl ([.ref (E.1 + b), .ref (E.1 + b2)])).length) Slot.unset).toArray = ls at hl ⊢
  have hl : lv_has ls 2 [(0, .ref (E.1 + b)), (1, .ref (E.1 + b2))] := hl
  refine lv_aload_n hx hb dX1_takeOver_0 rfl (lv_at hl 0 rfl) ?_
  refine w_gr 1 0 (b + 1) (T := TX1) (N := 2) hx hb hts in1 hown hK.1 hM (hb1).lt (hb1).k (hb1).n (hb1).f0 (by decide) rfl (by decide) k14 rfl dX1_takeOver_1 ?_
  refine lv_aload_n hx hb dX1_takeOver_4 rfl (lv_at hl 1 rfl) ?_
  refine w_gr 1 0 (b2 + 1) (T := TX1) (N := 2) hx hb hts in1 hown hK.1 hM (hb2).lt (hb2).k (hb2).n (hb2).f0 (by decide) rfl (by decide) k14 rfl dX1_takeOver_5 ?_
  refine w_cVv (C := RX3) (As := [.ref (E.1 + (b2 + 1))]) (rest := []) ⟨hx, hb, hml, hown, hts⟩ (c_X3_takeOver l hb1.text hb2.text hL.1 h1 h1) (cwV 1 hts gX1_takeOver_X3_takeOver rfl rfl rfl (by decide +kernel) ⟨Nat.le_of_ble_eq_true rfl, Nat.le_of_ble_eq_true rfl⟩) (w_recv (ci := 3) hK hM ((hb1).text).lt ((hb1).text).k (by decide) rfl) hM hK hS rfl hl.1 rfl (lv_room (Nat.le_of_ble_eq_true rfl)) dX1_takeOver_8 ⟨Nat.le_of_ble_eq_true rfl, Nat.le_of_ble_eq_true rfl⟩ (fun V8 H locs hp8 hM hS => ?_)
  have a2 := hL.2.otherR hp8.2 (by omega) (by omega) (by omega)
  refine lv_aload_n hx hb dX1_takeOver_11 rfl (lv_at hl 0 rfl) ?_
  refine w_gr 1 1 (b + 3) (T := TX1) (N := 2) hx hb hts in1 hown hK.1 hM (hb1).lt (hb1).k (hb1).n (hb1).f1 (by decide) rfl (by decide) k20 rfl dX1_takeOver_12 ?_
  refine lv_aload_n hx hb dX1_takeOver_15 rfl (lv_at hl 1 rfl) ?_
  refine w_gr 1 1 (b2 + 3) (T := TX1) (N := 2) hx hb hts in1 hown hK.1 hM (hb2).lt (hb2).k (hb2).n (hb2).f1 (by decide) rfl (by decide) k20 rfl dX1_takeOver_16 ?_
  refine w_cVv (C := RX3) (As := [.ref (E.1 + (b2 + 3))]) (rest := []) ⟨hx, hb, hml, hown, hts⟩ (c_X3_takeOver l hb1.lock hb2.lock a2 h2 h2) (cwV 1 hts gX1_takeOver_X3_takeOver rfl rfl rfl (by decide +kernel) ⟨Nat.le_of_ble_eq_true rfl, Nat.le_of_ble_eq_true rfl⟩) (w_recv (ci := 3) hK hM ((hb1).lock).lt ((hb1).lock).k (by decide) rfl) hM hK hS rfl hl.1 rfl (lv_room (Nat.le_of_ble_eq_true rfl)) dX1_takeOver_19 ⟨Nat.le_of_ble_eq_true rfl, Nat.le_of_ble_eq_true rfl⟩ (fun V19 H locs hp19 hM hS => ?_)
  exact w_vret (free := AE E) V19 hx hb hret hK hS hM (⟨⟨hp8.1.otherR hp19.2 (by omega) (by omega) (by omega), hp19.1⟩, (hp8.2.toI (by omega)).trans (hp19.2.toI (by omega))⟩) hlocks dX1_takeOver_22

set_option maxHeartbeats 4000000 in
set_option maxRecDepth 100000 in
theorem c_X1_putOn (l : Launch) {E : En} {V : Vt} {b : Nat} (hb1 : isLim b) (hbd : b + 4 < 506 ∨ 507 < b) {L : Lm} (hL : limIs V b L) (hok : okLm L) {z : List Int32} (hz : rowIs V 506 z) (hzl : z.length + 97 ≤ 1200) : CV l yX1_putOn wsX1_putOn 3 E V [.ref (E.1 + b), .ref (E.1 + 506)] (fun V' => rowIs V' 506 (z ++ limB L) ∧ frR V V' 506) := by
  refine Met.ofW (cc := cX1_putOn) (maxL := 2) (ret := none) (by decide) rfl ?_
  intro p e s m args below meth c s₁ B hml hv
  obtain ⟨rfl, hM, hK⟩ := hv
  have hx := B.exec
  have hb := B.bytes
  have hret := B.returns
  have hts := atoms_spec (ws := wsX1_putOn) B.pre
  have hown : s.vm.findClass RX1 = some m.cls := findClass_of_methodNamed B.named
  have hlocks := B.notSynchronized
  have hsz : s.heap.size = E.1 + 610 := hM.1
  have hS : va_S (AE E) s.heap s.heap [] := va_S.rf
  have in1 : ∀ w ∈ u_ws RX1 TX1 2, w ∈ wsX1_putOn := by decide +kernel
  have in3 : ∀ w ∈ u_ws RX3 TX3 2, w ∈ wsX1_putOn := by decide +kernel
  have k14 := hts (.fieldLink RX1 14 "LimitTokens$Limit" "text" "LLimitTokens$Row;") (by decide +kernel)
  have k23 := hts (.fieldLink RX1 23 "LimitTokens$Row" "length" "I") (by decide +kernel)
  have k20 := hts (.fieldLink RX1 20 "LimitTokens$Limit" "lock" "LLimitTokens$Row;") (by decide +kernel)
  have hl := lv_entry ([.ref (E.1 + b), .ref (E.1 + 506)]) (n := 2) (Nat.le_of_ble_eq_true rfl)
  rw [lg_entry_eq]
  generalize (lg_sl ([.ref (E.1 + b), .ref (E.1 + 506)]) ++ List.replicate (2 - (lg_sl ([.ref (E.1 + b), .ref (E.1 + 506)])).length) Slot.unset).toArray = ls at hl ⊢
  have hl : lv_has ls 2 [(0, .ref (E.1 + b)), (1, .ref (E.1 + 506))] := hl
  obtain ⟨ok1, ok2, ok3, -, -⟩ := id hok
  have hlk : L.2.length ≤ 32 := by rcases ok3 with h | h; (rw [h]; simp); omega
  refine lv_aload_n hx hb dX1_putOn_0 rfl (lv_at hl 1 rfl) ?_
  refine lv_iconst (v := 2) hx hb dX1_putOn_1 (by decide) ?_
  refine w_cVv (C := RX3) (As := [.int 2]) (rest := []) ⟨hx, hb, hml, hown, hts⟩ (c_X3_push l rw506 hz (by omega) 2) (cwV 1 hts gX1_putOn_X3_push rfl rfl rfl (by decide +kernel) ⟨Nat.le_of_ble_eq_true rfl, Nat.le_of_ble_eq_true rfl⟩) (w_recv (ci := 3) hK hM (by decide) (by decide) (by decide) rfl) hM hK hS rfl hl.1 rfl (lv_room (Nat.le_of_ble_eq_true rfl)) dX1_putOn_2 ⟨Nat.le_of_ble_eq_true rfl, Nat.le_of_ble_eq_true rfl⟩ (fun V2 H locs hp2 hM hS => ?_)
  have t2 := hL.1.otherR hp2.2 (by omega) (by omega) (by omega)
  have k2_ := hL.2.otherR hp2.2 (by omega) (by omega) (by omega)
  refine lv_aload_n hx hb dX1_putOn_5 rfl (lv_at hl 1 rfl) ?_
  refine lv_aload_n hx hb dX1_putOn_6 rfl (lv_at hl 0 rfl) ?_
  refine w_gr 1 0 (b + 1) (T := TX1) (N := 2) hx hb hts in1 hown hK.1 hM (hb1).lt (hb1).k (hb1).n (hb1).f0 (by decide) rfl (by decide) k14 rfl dX1_putOn_7 ?_
  refine w_gi 3 1 (T := TX3) (N := 2) hx hb hts in3 hown hK.1 hM ((hb1).text).lt ((hb1).text).k ((hb1).text).n ((hb1).text).f1 (by decide) rfl (by decide) k23 rfl dX1_putOn_10 ?_
  have q : (V2 (b + 1) 1 : Int32) = nI L.1.length := t2.1
  refine lv_eqi q ?_
  refine w_cVv (C := RX3) (As := [.int (nI L.1.length)]) (rest := []) ⟨hx, hb, hml, hown, hts⟩ (c_X3_push l rw506 hp2.1 (by simp; omega) (nI L.1.length)) (cwV 1 hts gX1_putOn_X3_push rfl rfl rfl (by decide +kernel) ⟨Nat.le_of_ble_eq_true rfl, Nat.le_of_ble_eq_true rfl⟩) (w_recv (ci := 3) hK hM (by decide) (by decide) (by decide) rfl) hM hK hS rfl hl.1 rfl (lv_room (Nat.le_of_ble_eq_true rfl)) dX1_putOn_13 ⟨Nat.le_of_ble_eq_true rfl, Nat.le_of_ble_eq_true rfl⟩ (fun V13 H locs hp13 hM hS => ?_)
  have t13 := t2.otherR hp13.2 (by omega) (by omega) (by omega)
  have k13 := k2_.otherR hp13.2 (by omega) (by omega) (by omega)
  refine lv_aload_n hx hb dX1_putOn_16 rfl (lv_at hl 1 rfl) ?_
  refine lv_aload_n hx hb dX1_putOn_17 rfl (lv_at hl 0 rfl) ?_
  refine w_gr 1 0 (b + 1) (T := TX1) (N := 2) hx hb hts in1 hown hK.1 hM (hb1).lt (hb1).k (hb1).n (hb1).f0 (by decide) rfl (by decide) k14 rfl dX1_putOn_18 ?_
  refine w_cVv (C := RX3) (As := [.ref (E.1 + (b + 1))]) (rest := []) ⟨hx, hb, hml, hown, hts⟩ (c_X3_pushAll l rw506 hb1.text (by omega) hp13.1 t13 (by omega) (by simp; omega)) (cwV 1 hts gX1_putOn_X3_pushAll rfl rfl rfl (by decide +kernel) ⟨Nat.le_of_ble_eq_true rfl, Nat.le_of_ble_eq_true rfl⟩) (w_recv (ci := 3) hK hM (by decide) (by decide) (by decide) rfl) hM hK hS rfl hl.1 rfl (lv_room (Nat.le_of_ble_eq_true rfl)) dX1_putOn_21 ⟨Nat.le_of_ble_eq_true rfl, Nat.le_of_ble_eq_true rfl⟩ (fun V21 H locs hp21 hM hS => ?_)
  have k21 := k13.otherR hp21.2 (by omega) (by omega) (by omega)
  have f21 : frR V V21 506 := (hp2.2.trans hp13.2).trans hp21.2
  refine lv_aload_n hx hb dX1_putOn_24 rfl (lv_at hl 0 rfl) ?_
  refine w_cVi (C := RX1) (As := []) (rest := []) ⟨hx, hb, hml, hown, hts⟩ (c_X1_isOfOthers l hb1 k21 hlk) (cwV 0 hts gX1_putOn_X1_isOfOthers rfl rfl rfl (by decide +kernel) ⟨Nat.le_of_ble_eq_true rfl, Nat.le_of_ble_eq_true rfl⟩) (w_recv (ci := 1) hK hM (hb1).lt (hb1).k (by decide) rfl) hM hK hS rfl hl.1 rfl (lv_room (Nat.le_of_ble_eq_true rfl)) dX1_putOn_25 ⟨Nat.le_of_ble_eq_true rfl, Nat.le_of_ble_eq_true rfl⟩ (fun r25 V25 H locs hp25 hM hS => ?_)
  obtain ⟨er25, eV⟩ := hp25
  rw [eV] at hM; clear eV
  have join50 : ∀ (Vj : Vt) (H : Heap) (locs : List Loc) (ls : Array Slot) (mid : List Int32) (emid : mid = (if L.2 = [] then [] else [4, 32] ++ L.2)) (hq : rowIs Vj 506 ((((z ++ [2]) ++ [nI L.1.length]) ++ L.1) ++ mid)) (hql : mid.length ≤ 34) (hfj : frR V Vj 506), Wd E Vj H → va_S (AE E) s.heap H locs → lv_has ls 2 [(0, .ref (E.1 + b)), (1, .ref (E.1 + 506))] → W p l e (headSpec wsX1_putOn (rmD 3)).room s m ([.ref (E.1 + b), .ref (E.1 + 506)] : List Value).toArray below meth c H locs 0 0 (MQ below (QV E (fun V' => Wd E V') (fun V' => rowIs V' 506 (z ++ limB L) ∧ frR V V' 506)) ([.ref (E.1 + b), .ref (E.1 + 506)] : List Value).toArray s 0 0 (AE E)) (F0 m 50 ls []) := by
    intro Vj H locs ls mid emid hq hql hfj hM hS hl
    refine lv_aload_n hx hb dX1_putOn_50 rfl (lv_at hl 1 rfl) ?_
    refine lv_iconst (v := 0) hx hb dX1_putOn_51 (by decide) ?_
    refine w_cVv (C := RX3) (As := [.int 0]) (rest := []) ⟨hx, hb, hml, hown, hts⟩ (c_X3_push l rw506 hq (by (simp at hql ⊢; omega)) 0) (cwV 1 hts gX1_putOn_X3_push rfl rfl rfl (by decide +kernel) ⟨Nat.le_of_ble_eq_true rfl, Nat.le_of_ble_eq_true rfl⟩) (w_recv (ci := 3) hK hM (by decide) (by decide) (by decide) rfl) hM hK hS rfl hl.1 rfl (lv_room (Nat.le_of_ble_eq_true rfl)) dX1_putOn_52 ⟨Nat.le_of_ble_eq_true rfl, Nat.le_of_ble_eq_true rfl⟩ (fun V52 H locs hp52 hM hS => ?_)
    exact w_vret (free := AE E) V52 hx hb hret hK hS hM (⟨by have := hp52.1; unfold limB; rw [← emid]; simpa using this, hfj.trans hp52.2⟩) hlocks dX1_putOn_55
  refine lv_if_eq (tgt := 50) hx hb dX1_putOn_28 (by decide) (fun c_28 => ?_) (fun c_28 => ?_)
  · have hnl : L.2 = [] := by by_cases h : L.2 = []; (exact h); (rw [er25, if_neg h] at c_28; exact absurd c_28 (by decide))
    exact join50 V21 _ _ _ [] (by rw [if_pos hnl]) (by rw [List.append_nil]; exact hp21.1) (by simp) f21 hM hS (lv_sub hl [0, 1] rfl)
  · have hnl : ¬ L.2 = [] := fun h => c_28 (by rw [er25, if_pos h])
    refine lv_aload_n hx hb dX1_putOn_31 rfl (lv_at hl 1 rfl) ?_
    refine lv_iconst (v := 4) hx hb dX1_putOn_32 (by decide) ?_
    refine w_cVv (C := RX3) (As := [.int 4]) (rest := []) ⟨hx, hb, hml, hown, hts⟩ (c_X3_push l rw506 hp21.1 (by simp; omega) 4) (cwV 1 hts gX1_putOn_X3_push rfl rfl rfl (by decide +kernel) ⟨Nat.le_of_ble_eq_true rfl, Nat.le_of_ble_eq_true rfl⟩) (w_recv (ci := 3) hK hM (by decide) (by decide) (by decide) rfl) hM hK hS rfl hl.1 rfl (lv_room (Nat.le_of_ble_eq_true rfl)) dX1_putOn_33 ⟨Nat.le_of_ble_eq_true rfl, Nat.le_of_ble_eq_true rfl⟩ (fun V33 H locs hp33 hM hS => ?_)
    have k33 := k21.otherR hp33.2 (by omega) (by omega) (by omega)
    refine lv_aload_n hx hb dX1_putOn_36 rfl (lv_at hl 1 rfl) ?_
    refine lv_bipush (v := 32) hx hb dX1_putOn_37 (by decide) ?_
    refine w_cVv (C := RX3) (As := [.int 32]) (rest := []) ⟨hx, hb, hml, hown, hts⟩ (c_X3_push l rw506 hp33.1 (by simp; omega) 32) (cwV 1 hts gX1_putOn_X3_push rfl rfl rfl (by decide +kernel) ⟨Nat.le_of_ble_eq_true rfl, Nat.le_of_ble_eq_true rfl⟩) (w_recv (ci := 3) hK hM (by decide) (by decide) (by decide) rfl) hM hK hS rfl hl.1 rfl (lv_room (Nat.le_of_ble_eq_true rfl)) dX1_putOn_39 ⟨Nat.le_of_ble_eq_true rfl, Nat.le_of_ble_eq_true rfl⟩ (fun V39 H locs hp39 hM hS => ?_)
    have k39 := k33.otherR hp39.2 (by omega) (by omega) (by omega)
    refine lv_aload_n hx hb dX1_putOn_42 rfl (lv_at hl 1 rfl) ?_
    refine lv_aload_n hx hb dX1_putOn_43 rfl (lv_at hl 0 rfl) ?_
    refine w_gr 1 1 (b + 3) (T := TX1) (N := 2) hx hb hts in1 hown hK.1 hM (hb1).lt (hb1).k (hb1).n (hb1).f1 (by decide) rfl (by decide) k20 rfl dX1_putOn_44 ?_
    refine w_cVv (C := RX3) (As := [.ref (E.1 + (b + 3))]) (rest := []) ⟨hx, hb, hml, hown, hts⟩ (c_X3_pushAll l rw506 hb1.lock (by omega) hp39.1 k39 hlk (by simp; omega)) (cwV 1 hts gX1_putOn_X3_pushAll rfl rfl rfl (by decide +kernel) ⟨Nat.le_of_ble_eq_true rfl, Nat.le_of_ble_eq_true rfl⟩) (w_recv (ci := 3) hK hM (by decide) (by decide) (by decide) rfl) hM hK hS rfl hl.1 rfl (lv_room (Nat.le_of_ble_eq_true rfl)) dX1_putOn_47 ⟨Nat.le_of_ble_eq_true rfl, Nat.le_of_ble_eq_true rfl⟩ (fun V47 H locs hp47 hM hS => ?_)
    exact join50 V47 _ _ _ ([4, 32] ++ L.2) (by rw [if_neg hnl]) (by have := hp47.1; simpa using this) (by simp; omega) (((f21.trans hp33.2).trans hp39.2).trans hp47.2) hM hS (lv_sub hl [0, 1] rfl)

set_option maxHeartbeats 4000000 in
set_option maxRecDepth 100000 in
theorem c_X6_isFull (l : Launch) {E : En} {V : Vt} {b : Nat} (hb1 : isTok b) : CI l yX6_isFull wsX6_isFull 0 E V [.ref (E.1 + b)] (fun r V' => r = (if V b 3 < 10 then 0 else 1) ∧ V' = V) := by
  refine Met.ofW (cc := cX6_isFull) (maxL := 1) (ret := (some .boolean)) (by decide) rfl ?_
  intro p e s m args below meth c s₁ B hml hv
  obtain ⟨rfl, hM, hK⟩ := hv
  have hx := B.exec
  have hb := B.bytes
  have hret := B.returns
  have hts := atoms_spec (ws := wsX6_isFull) B.pre
  have hown : s.vm.findClass RX6 = some m.cls := findClass_of_methodNamed B.named
  have hlocks := B.notSynchronized
  have hsz : s.heap.size = E.1 + 610 := hM.1
  have hS : va_S (AE E) s.heap s.heap [] := va_S.rf
  have in6 : ∀ w ∈ u_ws RX6 TX6 5, w ∈ wsX6_isFull := by decide +kernel
  have k30 := hts (.fieldLink RX6 30 "LimitTokens$Token" "count" "I") (by decide +kernel)
  have hl := lv_entry ([.ref (E.1 + b)]) (n := 1) (Nat.le_of_ble_eq_true rfl)
  rw [lg_entry_eq]
  generalize (lg_sl ([.ref (E.1 + b)]) ++ List.replicate (1 - (lg_sl ([.ref (E.1 + b)])).length) Slot.unset).toArray = ls at hl ⊢
  have hl : lv_has ls 1 [(0, .ref (E.1 + b))] := hl
  refine lv_aload_n hx hb dX6_isFull_0 rfl (lv_at hl 0 rfl) ?_
  refine w_gi 6 3 (T := TX6) (N := 5) hx hb hts in6 hown hK.1 hM (hb1).lt (hb1).k (hb1).n (hb1).f3 (by decide) rfl (by decide) k30 rfl dX6_isFull_1 ?_
  refine lv_bipush (v := 10) hx hb dX6_isFull_4 (by decide) ?_
  refine lv_icmp_lt (tgt := 13) hx hb dX6_isFull_6 (by decide) (fun c_6 => ?_) (fun c_6 => ?_)
  · refine lv_iconst (v := 0) hx hb dX6_isFull_13 (by decide) ?_
    exact w_zret V hx hb hret hK hS hM (⟨by first | rw [if_pos c_6] | rw [if_neg c_6], rfl⟩) (rfl) hlocks dX6_isFull_14
  · refine lv_iconst (v := 1) hx hb dX6_isFull_9 (by decide) ?_
    refine lv_goto (tgt := 14) hx hb dX6_isFull_10 (by decide) ?_
    exact w_zret V hx hb hret hK hS hM (⟨by first | rw [if_pos c_6] | rw [if_neg c_6], rfl⟩) (rfl) hlocks dX6_isFull_14

set_option maxHeartbeats 4000000 in
set_option maxRecDepth 100000 in
theorem c_X6_limitTold (l : Launch) {E : En} {V : Vt} {b : Nat} (hb1 : isTok b) {T : Tk} (hT : tokIs V b T) (hok : okTk T) {j : Nat} (hj : j < 10) : CI l yX6_limitTold wsX6_limitTold 1 E V [.ref (E.1 + b), .int (nI j)] (fun r V' => r = (if j < T.2.2.length then nI ((T.2.2.getD j lz).1.length + (if (T.2.2.getD j lz).2 = [] then 0 else 100)) else 0) ∧ V' = V) := by
  refine Met.ofW (cc := cX6_limitTold) (maxL := 2) (ret := (some .int)) (by decide) rfl ?_
  intro p e s m args below meth c s₁ B hml hv
  obtain ⟨rfl, hM, hK⟩ := hv
  have hx := B.exec
  have hb := B.bytes
  have hret := B.returns
  have hts := atoms_spec (ws := wsX6_limitTold) B.pre
  have hown : s.vm.findClass RX6 = some m.cls := findClass_of_methodNamed B.named
  have hlocks := B.notSynchronized
  have hsz : s.heap.size = E.1 + 610 := hM.1
  have hS : va_S (AE E) s.heap s.heap [] := va_S.rf
  have in1 : ∀ w ∈ u_ws RX1 TX1 2, w ∈ wsX6_limitTold := by decide +kernel
  have in3 : ∀ w ∈ u_ws RX3 TX3 2, w ∈ wsX6_limitTold := by decide +kernel
  have in6 : ∀ w ∈ u_ws RX6 TX6 5, w ∈ wsX6_limitTold := by decide +kernel
  have k30 := hts (.fieldLink RX6 30 "LimitTokens$Token" "count" "I") (by decide +kernel)
  have k25 := hts (.fieldLink RX6 25 "LimitTokens$Token" "limits" "[LLimitTokens$Limit;") (by decide +kernel)
  have k34 := hts (.fieldLink RX6 34 "LimitTokens$Limit" "text" "LLimitTokens$Row;") (by decide +kernel)
  have k37 := hts (.fieldLink RX6 37 "LimitTokens$Row" "length" "I") (by decide +kernel)
  have hl := lv_entry ([.ref (E.1 + b), .int (nI j)]) (n := 2) (Nat.le_of_ble_eq_true rfl)
  rw [lg_entry_eq]
  generalize (lg_sl ([.ref (E.1 + b), .int (nI j)]) ++ List.replicate (2 - (lg_sl ([.ref (E.1 + b), .int (nI j)])).length) Slot.unset).toArray = ls at hl ⊢
  have hl : lv_has ls 2 [(0, .ref (E.1 + b)), (1, .int (nI j))] := hl
  have hn := hok.2.2.1
  refine lv_iload_n hx hb dX6_limitTold_0 rfl (lv_at hl 1 rfl) ?_
  refine lv_if_lt (tgt := 12) hx hb dX6_limitTold_1 (by decide) (fun c_1 => ?_) (fun c_1 => ?_)
  · exact absurd c_1 (nI_pos (by omega))
  · refine lv_iload_n hx hb dX6_limitTold_4 rfl (lv_at hl 1 rfl) ?_
    refine lv_aload_n hx hb dX6_limitTold_5 rfl (lv_at hl 0 rfl) ?_
    refine w_gi 6 3 (T := TX6) (N := 5) hx hb hts in6 hown hK.1 hM (hb1).lt (hb1).k (hb1).n (hb1).f3 (by decide) rfl (by decide) k30 rfl dX6_limitTold_6 ?_
    have q : (V b 3 : Int32) = nI T.2.2.length := hT.2.2.1
    refine lv_eqi q ?_
    refine lv_icmp_lt (tgt := 14) hx hb dX6_limitTold_9 (by decide) (fun c_9 => ?_) (fun c_9 => ?_)
    · have hlt : j < T.2.2.length := (nI_ltI (by omega) (by omega)).mp c_9
      have hoL := hok.2.2.2 j hlt
      refine lv_aload_n hx hb dX6_limitTold_14 rfl (lv_at hl 0 rfl) ?_
      refine w_gr 6 2 (b + 5) (T := TX6) (N := 5) hx hb hts in6 hown hK.1 hM (hb1).lt (hb1).k (hb1).n (hb1).f2 (by decide) rfl (by decide) k25 rfl dX6_limitTold_15 ?_
      refine lv_iload_n hx hb dX6_limitTold_18 rfl (lv_at hl 1 rfl) ?_
      refine w_ald (N := 10) 2 hx hb hK.1 hM (hb1).lt5 (by first | rfl | (rw [(hb1).k5]; rfl)) (by first | decide | (rw [(hb1).k5]; decide)) (hb1).n5 (vp_in_nI hj (by omega)) (b + 6 + 5 * j) (by rw [nI_clamp (by omega)]; exact hb1.fl hj) dX6_limitTold_19 ?_
      refine w_gr 1 0 (b + 6 + 5 * j + 1) (T := TX1) (N := 2) hx hb hts in1 hown hK.1 hM (hb1.lim hj).lt (hb1.lim hj).k (hb1.lim hj).n (hb1.lim hj).f0 (by decide) rfl (by decide) k34 rfl dX6_limitTold_20 ?_
      refine w_gi 3 1 (T := TX3) (N := 2) hx hb hts in3 hown hK.1 hM ((hb1.lim hj).text).lt ((hb1.lim hj).text).k ((hb1.lim hj).text).n ((hb1.lim hj).text).f1 (by decide) rfl (by decide) k37 rfl dX6_limitTold_23 ?_
      have q : (V (b + 6 + 5 * j + 1) 1 : Int32) = nI (T.2.2.getD j lz).1.length := (hT.2.2.2 j hlt).1.1
      refine lv_eqi q ?_
      refine lv_aload_n hx hb dX6_limitTold_26 rfl (lv_at hl 0 rfl) ?_
      refine w_gr 6 2 (b + 5) (T := TX6) (N := 5) hx hb hts in6 hown hK.1 hM (hb1).lt (hb1).k (hb1).n (hb1).f2 (by decide) rfl (by decide) k25 rfl dX6_limitTold_27 ?_
      refine lv_iload_n hx hb dX6_limitTold_30 rfl (lv_at hl 1 rfl) ?_
      refine w_ald (N := 10) 2 hx hb hK.1 hM (hb1).lt5 (by first | rfl | (rw [(hb1).k5]; rfl)) (by first | decide | (rw [(hb1).k5]; decide)) (hb1).n5 (vp_in_nI hj (by omega)) (b + 6 + 5 * j) (by rw [nI_clamp (by omega)]; exact hb1.fl hj) dX6_limitTold_31 ?_
      refine w_cVi (C := RX1) (As := []) (rest := [.int (nI (T.2.2.getD j lz).1.length)]) ⟨hx, hb, hml, hown, hts⟩ (c_X1_isOfOthers l (hb1.lim hj) (hT.2.2.2 j hlt).2 (by rcases hoL.2.2.1 with h | h; (rw [h]; simp); omega)) (cwV 0 hts gX6_limitTold_X1_isOfOthers rfl rfl rfl (by decide +kernel) ⟨Nat.le_of_ble_eq_true rfl, Nat.le_of_ble_eq_true rfl⟩) (w_recv (ci := 1) hK hM (hb1.lim hj).lt (hb1.lim hj).k (by decide) rfl) hM hK hS rfl hl.1 rfl (lv_room (Nat.le_of_ble_eq_true rfl)) dX6_limitTold_32 ⟨Nat.le_of_ble_eq_true rfl, Nat.le_of_ble_eq_true rfl⟩ (fun r32 V32 H locs hp32 hM hS => ?_)
      obtain ⟨er32, eV⟩ := hp32
      rw [eV] at hM; clear eV
      refine lv_if_eq (tgt := 43) hx hb dX6_limitTold_35 (by decide) (fun c_35 => ?_) (fun c_35 => ?_)
      · refine lv_iconst (v := 0) hx hb dX6_limitTold_43 (by decide) ?_
        refine lv_iadd hx hb dX6_limitTold_44 ?_
        exact w_iret V hx hb hret hK hS hM (⟨by (rw [if_pos hlt]); (by_cases hc : (T.2.2.getD j lz).2 = []); (rw [if_pos hc] at er32 ⊢; first | exact nI_add _ 0 | exact absurd er32 c_35); (rw [if_neg hc] at er32 ⊢; first | exact nI_add _ 100 | (rw [er32] at c_35; exact absurd c_35 (by decide))), rfl⟩) hlocks dX6_limitTold_45
      · refine lv_bipush (v := 100) hx hb dX6_limitTold_38 (by decide) ?_
        refine lv_goto (tgt := 44) hx hb dX6_limitTold_40 (by decide) ?_
        refine lv_iadd hx hb dX6_limitTold_44 ?_
        exact w_iret V hx hb hret hK hS hM (⟨by (rw [if_pos hlt]); (by_cases hc : (T.2.2.getD j lz).2 = []); (rw [if_pos hc] at er32 ⊢; first | exact nI_add _ 0 | exact absurd er32 c_35); (rw [if_neg hc] at er32 ⊢; first | exact nI_add _ 100 | (rw [er32] at c_35; exact absurd c_35 (by decide))), rfl⟩) hlocks dX6_limitTold_45
    · have hge : ¬ j < T.2.2.length := fun q => c_9 (nI_lt q (by omega))
      refine lv_iconst (v := 0) hx hb dX6_limitTold_12 (by decide) ?_
      exact w_iret V hx hb hret hK hS hM (⟨by rw [if_neg hge], rfl⟩) hlocks dX6_limitTold_13

set_option maxHeartbeats 4000000 in
set_option maxRecDepth 100000 in
theorem c_X6_takeOver (l : Launch) {E : En} {V : Vt} {b b2 : Nat} (hb1 : isTok b) (hb2 : isTok b2) (hd : b = b2 ∨ b + 55 < b2 ∨ b2 + 55 < b) {T : Tk} (hT : tokIs V b2 T) (hok : okTk T) (hth : V b2 4 = 1) : CV l yX6_takeOver wsX6_takeOver 4 E V [.ref (E.1 + b), .ref (E.1 + b2)] (fun V' => tokIs V' b T ∧ V' b 4 = 1 ∧ frI V V' b (b + 55)) := by
  refine Met.ofW (cc := cX6_takeOver) (maxL := 3) (ret := none) (by decide) rfl ?_
  intro p e s m args below meth c s₁ B hml hv
  obtain ⟨rfl, hM, hK⟩ := hv
  have hx := B.exec
  have hb := B.bytes
  have hret := B.returns
  have hts := atoms_spec (ws := wsX6_takeOver) B.pre
  have hown : s.vm.findClass RX6 = some m.cls := findClass_of_methodNamed B.named
  have hlocks := B.notSynchronized
  have hsz : s.heap.size = E.1 + 610 := hM.1
  have hS : va_S (AE E) s.heap s.heap [] := va_S.rf
  have in6 : ∀ w ∈ u_ws RX6 TX6 5, w ∈ wsX6_takeOver := by decide +kernel
  have k14 := hts (.fieldLink RX6 14 "LimitTokens$Token" "name" "LLimitTokens$Row;") (by decide +kernel)
  have k20 := hts (.fieldLink RX6 20 "LimitTokens$Token" "sign" "LLimitTokens$Row;") (by decide +kernel)
  have k30 := hts (.fieldLink RX6 30 "LimitTokens$Token" "count" "I") (by decide +kernel)
  have k51 := hts (.fieldLink RX6 51 "LimitTokens$Token" "there" "Z") (by decide +kernel)
  have k25 := hts (.fieldLink RX6 25 "LimitTokens$Token" "limits" "[LLimitTokens$Limit;") (by decide +kernel)
  have hl := lv_entry ([.ref (E.1 + b), .ref (E.1 + b2)]) (n := 3) (Nat.le_of_ble_eq_true rfl)
  rw [lg_entry_eq]
  generalize (lg_sl ([.ref (E.1 + b), .ref (E.1 + b2)]) ++ List.replicate (3 - (lg_sl ([.ref (E.1 + b), .ref (E.1 + b2)])).length) Slot.unset).toArray = ls at hl ⊢
  have hl : lv_has ls 3 [(0, .ref (E.1 + b)), (1, .ref (E.1 + b2))] := hl
  have hn := hok.2.2.1
  refine lv_aload_n hx hb dX6_takeOver_0 rfl (lv_at hl 0 rfl) ?_
  refine w_gr 6 0 (b + 1) (T := TX6) (N := 5) hx hb hts in6 hown hK.1 hM (hb1).lt (hb1).k (hb1).n (hb1).f0 (by decide) rfl (by decide) k14 rfl dX6_takeOver_1 ?_
  refine lv_aload_n hx hb dX6_takeOver_4 rfl (lv_at hl 1 rfl) ?_
  refine w_gr 6 0 (b2 + 1) (T := TX6) (N := 5) hx hb hts in6 hown hK.1 hM (hb2).lt (hb2).k (hb2).n (hb2).f0 (by decide) rfl (by decide) k14 rfl dX6_takeOver_5 ?_
  refine w_cVv (C := RX3) (As := [.ref (E.1 + (b2 + 1))]) (rest := []) ⟨hx, hb, hml, hown, hts⟩ (c_X3_takeOver l hb1.name hb2.name hT.1 hok.1.2.1 hok.1.2.1) (cwV 1 hts gX6_takeOver_X3_takeOver rfl rfl rfl (by decide +kernel) ⟨Nat.le_of_ble_eq_true rfl, Nat.le_of_ble_eq_true rfl⟩) (w_recv (ci := 3) hK hM ((hb1).name).lt ((hb1).name).k (by decide) rfl) hM hK hS rfl hl.1 rfl (lv_room (Nat.le_of_ble_eq_true rfl)) dX6_takeOver_8 ⟨Nat.le_of_ble_eq_true rfl, Nat.le_of_ble_eq_true rfl⟩ (fun V8 H locs hp8 hM hS => ?_)
  have s8 := hT.2.1.otherR hp8.2 (by omega) (by omega) (by omega)
  refine lv_aload_n hx hb dX6_takeOver_11 rfl (lv_at hl 0 rfl) ?_
  refine w_gr 6 1 (b + 3) (T := TX6) (N := 5) hx hb hts in6 hown hK.1 hM (hb1).lt (hb1).k (hb1).n (hb1).f1 (by decide) rfl (by decide) k20 rfl dX6_takeOver_12 ?_
  refine lv_aload_n hx hb dX6_takeOver_15 rfl (lv_at hl 1 rfl) ?_
  refine w_gr 6 1 (b2 + 3) (T := TX6) (N := 5) hx hb hts in6 hown hK.1 hM (hb2).lt (hb2).k (hb2).n (hb2).f1 (by decide) rfl (by decide) k20 rfl dX6_takeOver_16 ?_
  refine w_cVv (C := RX3) (As := [.ref (E.1 + (b2 + 3))]) (rest := []) ⟨hx, hb, hml, hown, hts⟩ (c_X3_takeOver l hb1.sign hb2.sign s8 (by rw [hok.2.1.1]; omega) (by rw [hok.2.1.1]; omega)) (cwV 1 hts gX6_takeOver_X3_takeOver rfl rfl rfl (by decide +kernel) ⟨Nat.le_of_ble_eq_true rfl, Nat.le_of_ble_eq_true rfl⟩) (w_recv (ci := 3) hK hM ((hb1).sign).lt ((hb1).sign).k (by decide) rfl) hM hK hS rfl hl.1 rfl (lv_room (Nat.le_of_ble_eq_true rfl)) dX6_takeOver_19 ⟨Nat.le_of_ble_eq_true rfl, Nat.le_of_ble_eq_true rfl⟩ (fun V19 H locs hp19 hM hS => ?_)
  have f19 : frI V V19 (b + 1) (b + 55) := (hp8.2.toI (by omega)).trans (hp19.2.toI (by omega))
  have n19 := hp8.1.otherR hp19.2 (by omega) (by omega) (by omega)
  have l19 : ∀ i, i < T.2.2.length → limIs V19 (b2 + 6 + 5 * i) (T.2.2.getD i lz) := fun i hi => (hT.2.2.2 i hi).otherI ((hp8.2.toI (lo := b + 1) (hi := b + 4) (by omega)).trans (hp19.2.toI (by omega))) (by omega)
  refine lv_iconst (v := 0) hx hb dX6_takeOver_22 (by decide) ?_
  refine lv_istore_n (lv' := [(2, .int 0), (0, .ref (E.1 + b)), (1, .ref (E.1 + b2))]) hx hb dX6_takeOver_23 rfl hl (by decide) rfl (fun ls hl => ?_)
  have loop24 : ∀ (fu : Nat) (Vw : Vt) (H : Heap) (locs : List Loc) (ls : Array Slot) (j : Nat) (x : Int32) (ex : x = nI j) (hj : j ≤ T.2.2.length) (hsrc : ∀ i, i < T.2.2.length → limIs Vw (b2 + 6 + 5 * i) (T.2.2.getD i lz)) (hdst : ∀ i, i < j → limIs Vw (b + 6 + 5 * i) (T.2.2.getD i lz)) (hnm : rowIs Vw (b + 1) T.1) (hsg : rowIs Vw (b + 3) T.2.1) (hf : frI V Vw (b + 1) (b + 55)), T.2.2.length - j < fu → Wd E Vw H → va_S (AE E) s.heap H locs → lv_has ls 3 [(0, .ref (E.1 + b)), (1, .ref (E.1 + b2)), (2, .int x)] → W p l e (headSpec wsX6_takeOver (rmD 4)).room s m ([.ref (E.1 + b), .ref (E.1 + b2)] : List Value).toArray below meth c H locs 0 0 (MQ below (QV E (fun V' => Wd E V') (fun V' => tokIs V' b T ∧ V' b 4 = 1 ∧ frI V V' b (b + 55))) ([.ref (E.1 + b), .ref (E.1 + b2)] : List Value).toArray s 0 0 (AE E)) (F0 m 24 ls []) := by
    intro fu
    induction fu with
    | zero => intros; omega
    | succ fu ih =>
      intro Vw H locs ls j x ex hj hsrc hdst hnm hsg hf hfu hM hS hl
      refine lv_iload_n hx hb dX6_takeOver_24 rfl (lv_at hl 2 rfl) ?_
      refine lv_aload_n hx hb dX6_takeOver_25 rfl (lv_at hl 1 rfl) ?_
      refine w_gi 6 3 (T := TX6) (N := 5) hx hb hts in6 hown hK.1 hM (hb2).lt (hb2).k (hb2).n (hb2).f3 (by decide) rfl (by decide) k30 rfl dX6_takeOver_26 ?_
      have q : (Vw b2 3 : Int32) = nI T.2.2.length := by rw [hf b2 (by omega)]; exact hT.2.2.1
      refine lv_eqi q ?_
      refine lv_icmp_ge (tgt := 53) hx hb dX6_takeOver_29 (by decide) (fun c_29 => ?_) (fun c_29 => ?_)
      · have hjn : j = T.2.2.length := by have := nI_lei ex c_29 (by omega) (by omega); omega
        refine lv_aload_n hx hb dX6_takeOver_53 rfl (lv_at hl 0 rfl) ?_
        refine lv_aload_n hx hb dX6_takeOver_54 rfl (lv_at hl 1 rfl) ?_
        refine w_gi 6 3 (T := TX6) (N := 5) hx hb hts in6 hown hK.1 hM (hb2).lt (hb2).k (hb2).n (hb2).f3 (by decide) rfl (by decide) k30 rfl dX6_takeOver_55 ?_
        have q : (Vw b2 3 : Int32) = nI T.2.2.length := by rw [hf b2 (by omega)]; exact hT.2.2.1
        refine lv_eqi q ?_
        refine w_pi 6 3 (T := TX6) (N := 5) hx hb hts in6 tyX6 tyX6_ok nmX6 hown hK.1 hM hS (hb1).lt (hb1).k (hb1).n (hb1).f3 (by decide) rfl (by decide) k30 rfl rfl rfl rfl dX6_takeOver_58 (fun H locs hM hS => ?_)
        generalize hV58 : up2 Vw b 3 (nI T.2.2.length) = V58 at hM
        refine lv_aload_n hx hb dX6_takeOver_61 rfl (lv_at hl 0 rfl) ?_
        refine lv_aload_n hx hb dX6_takeOver_62 rfl (lv_at hl 1 rfl) ?_
        refine w_gi 6 4 (T := TX6) (N := 5) hx hb hts in6 hown hK.1 hM (hb2).lt (hb2).k (hb2).n (hb2).f4 (by decide) rfl (by decide) k51 rfl dX6_takeOver_63 ?_
        have q : (V58 b2 4 : Int32) = 1 := by rw [← hV58]; by_cases h8 : b2 = b; (subst h8; rw [up2_o _ _ (by omega), hf _ (by omega)]; exact hth); (rw [up2_k _ _ h8, hf b2 (by omega)]; exact hth)
        refine lv_eqi q ?_
        refine w_pi 6 4 (T := TX6) (N := 5) hx hb hts in6 tyX6 tyX6_ok nmX6 hown hK.1 hM hS (hb1).lt (hb1).k (hb1).n (hb1).f4 (by decide) rfl (by decide) k51 rfl rfl rfl rfl dX6_takeOver_66 (fun H locs hM hS => ?_)
        generalize hV66 : up2 V58 b 4 1 = V66 at hM
        exact w_vret (free := AE E) V66 hx hb hret hK hS hM (by subst hV58; subst hV66; subst hjn; exact ⟨⟨(hnm.otherI ((frI.rf.up (k := b) (lo := b) (hi := b) (by omega) _ _).up (by omega) _ _) (by omega)), (hsg.otherI ((frI.rf.up (k := b) (lo := b) (hi := b) (by omega) _ _).up (by omega) _ _) (by omega)), (by rw [up2_o _ _ (by decide), up2_s]), fun i hi => (hdst i hi).otherI ((frI.rf.up (k := b) (lo := b) (hi := b) (by omega) _ _).up (by omega) _ _) (by omega)⟩, (by rw [up2_s]), (((hf.wide (by omega)).up (by omega) _ _).up (by omega) _ _)⟩) hlocks dX6_takeOver_69
      · have hlt := nI_ltn ex c_29 (by omega) (by omega)
        have hj10 : j < 10 := by omega
        refine lv_aload_n hx hb dX6_takeOver_32 rfl (lv_at hl 0 rfl) ?_
        refine w_gr 6 2 (b + 5) (T := TX6) (N := 5) hx hb hts in6 hown hK.1 hM (hb1).lt (hb1).k (hb1).n (hb1).f2 (by decide) rfl (by decide) k25 rfl dX6_takeOver_33 ?_
        refine lv_iload_n hx hb dX6_takeOver_36 rfl (lv_at hl 2 rfl) ?_
        refine w_ald (N := 10) 2 hx hb hK.1 hM (hb1).lt5 (by first | rfl | (rw [(hb1).k5]; rfl)) (by first | decide | (rw [(hb1).k5]; decide)) (hb1).n5 (by rw [ex]; exact vp_in_nI hj10 (by omega)) (b + 6 + 5 * j) (by rw [ex, nI_clamp (by omega)]; exact hb1.fl hj10) dX6_takeOver_37 ?_
        refine lv_aload_n hx hb dX6_takeOver_38 rfl (lv_at hl 1 rfl) ?_
        refine w_gr 6 2 (b2 + 5) (T := TX6) (N := 5) hx hb hts in6 hown hK.1 hM (hb2).lt (hb2).k (hb2).n (hb2).f2 (by decide) rfl (by decide) k25 rfl dX6_takeOver_39 ?_
        refine lv_iload_n hx hb dX6_takeOver_42 rfl (lv_at hl 2 rfl) ?_
        refine w_ald (N := 10) 2 hx hb hK.1 hM (hb2).lt5 (by first | rfl | (rw [(hb2).k5]; rfl)) (by first | decide | (rw [(hb2).k5]; decide)) (hb2).n5 (by rw [ex]; exact vp_in_nI hj10 (by omega)) (b2 + 6 + 5 * j) (by rw [ex, nI_clamp (by omega)]; exact hb2.fl hj10) dX6_takeOver_43 ?_
        refine w_cVv (C := RX1) (As := [.ref (E.1 + (b2 + 6 + 5 * j))]) (rest := []) ⟨hx, hb, hml, hown, hts⟩ (c_X1_takeOver l (hb1.lim hj10) (hb2.lim hj10) (by omega) (hsrc j hlt) (hok.2.2.2 j hlt).2.1 (by rcases (hok.2.2.2 j hlt).2.2.1 with h | h; (rw [h]; simp); omega)) (cwV 1 hts gX6_takeOver_X1_takeOver rfl rfl rfl (by decide +kernel) ⟨Nat.le_of_ble_eq_true rfl, Nat.le_of_ble_eq_true rfl⟩) (w_recv (ci := 1) hK hM (hb1.lim hj10).lt (hb1.lim hj10).k (by decide) rfl) hM hK hS rfl hl.1 rfl (lv_room (Nat.le_of_ble_eq_true rfl)) dX6_takeOver_44 ⟨Nat.le_of_ble_eq_true rfl, Nat.le_of_ble_eq_true rfl⟩ (fun V44 H locs hp44 hM hS => ?_)
        obtain ⟨x2_47, ex2_47⟩ : ∃ y : Int32, y = x + 1 := ⟨_, rfl⟩
        refine lv_iinc (v := x2_47) (lv' := [(2, .int x2_47), (0, .ref (E.1 + b)), (1, .ref (E.1 + b2))]) hx hb dX6_takeOver_47 hl (k := 2) rfl (by rw [ex2_47]; rfl) (by decide) rfl (fun ls hl => ?_)
        refine lv_goto (tgt := 24) hx hb dX6_takeOver_50 (by decide) ?_
        have f44 := hp44.2
        exact ih V44 _ _ _ (j + 1) _ (by rw [ex2_47, ex, nI_1]) (by omega) (fun i hi => by by_cases hc : b = b2 ∧ i = j; (obtain ⟨h8, h9⟩ := hc; rw [← h8, h9]; exact hp44.1); (exact (hsrc i hi).otherI f44 (by omega))) (lt_s (fun i hi => (hdst i hi).otherI f44 (by omega)) hp44.1) (hnm.otherI f44 (by omega)) (hsg.otherI f44 (by omega)) (hf.trans (f44.wide (by omega))) (by omega) hM hS (lv_sub hl [1, 2, 0] rfl)
  exact loop24 _ V19 _ _ _ 0 0 (rfl) (Nat.zero_le _) (l19) (lt_0) (n19) (hp19.1) (f19) (Nat.lt_succ_self _) hM hS (lv_sub hl [1, 2, 0] rfl)

set_option maxHeartbeats 4000000 in
set_option maxRecDepth 100000 in
theorem c_X6_putOn (l : Launch) {E : En} {V : Vt} {b : Nat} (hb1 : isTok b) (hbd : b + 55 < 506 ∨ 507 < b) {T : Tk} (hT : tokIs V b T) (hok : okTk T) (hz : rowIs V 506 []) : CV l yX6_putOn wsX6_putOn 4 E V [.ref (E.1 + b), .ref (E.1 + 506)] (fun V' => rowIs V' 506 (tokB T) ∧ frR V V' 506) := by
  refine Met.ofW (cc := cX6_putOn) (maxL := 3) (ret := none) (by decide) rfl ?_
  intro p e s m args below meth c s₁ B hml hv
  obtain ⟨rfl, hM, hK⟩ := hv
  have hx := B.exec
  have hb := B.bytes
  have hret := B.returns
  have hts := atoms_spec (ws := wsX6_putOn) B.pre
  have hown : s.vm.findClass RX6 = some m.cls := findClass_of_methodNamed B.named
  have hlocks := B.notSynchronized
  have hsz : s.heap.size = E.1 + 610 := hM.1
  have hS : va_S (AE E) s.heap s.heap [] := va_S.rf
  have in3 : ∀ w ∈ u_ws RX3 TX3 2, w ∈ wsX6_putOn := by decide +kernel
  have in6 : ∀ w ∈ u_ws RX6 TX6 5, w ∈ wsX6_putOn := by decide +kernel
  have k14 := hts (.fieldLink RX6 14 "LimitTokens$Token" "name" "LLimitTokens$Row;") (by decide +kernel)
  have k37 := hts (.fieldLink RX6 37 "LimitTokens$Row" "length" "I") (by decide +kernel)
  have k30 := hts (.fieldLink RX6 30 "LimitTokens$Token" "count" "I") (by decide +kernel)
  have k20 := hts (.fieldLink RX6 20 "LimitTokens$Token" "sign" "LLimitTokens$Row;") (by decide +kernel)
  have k25 := hts (.fieldLink RX6 25 "LimitTokens$Token" "limits" "[LLimitTokens$Limit;") (by decide +kernel)
  have hl := lv_entry ([.ref (E.1 + b), .ref (E.1 + 506)]) (n := 3) (Nat.le_of_ble_eq_true rfl)
  rw [lg_entry_eq]
  generalize (lg_sl ([.ref (E.1 + b), .ref (E.1 + 506)]) ++ List.replicate (3 - (lg_sl ([.ref (E.1 + b), .ref (E.1 + 506)])).length) Slot.unset).toArray = ls at hl ⊢
  have hl : lv_has ls 3 [(0, .ref (E.1 + b)), (1, .ref (E.1 + 506))] := hl
  have hn := hok.2.2.1
  have hnm := hok.1.2.1
  have hsl := hok.2.1.1
  refine lv_aload_n hx hb dX6_putOn_0 rfl (lv_at hl 1 rfl) ?_
  refine lv_iconst (v := 2) hx hb dX6_putOn_1 (by decide) ?_
  refine w_cVv (C := RX3) (As := [.int 2]) (rest := []) ⟨hx, hb, hml, hown, hts⟩ (c_X3_push l rw506 hz (by simp) 2) (cwV 1 hts gX6_putOn_X3_push rfl rfl rfl (by decide +kernel) ⟨Nat.le_of_ble_eq_true rfl, Nat.le_of_ble_eq_true rfl⟩) (w_recv (ci := 3) hK hM (by decide) (by decide) (by decide) rfl) hM hK hS rfl hl.1 rfl (lv_room (Nat.le_of_ble_eq_true rfl)) dX6_putOn_2 ⟨Nat.le_of_ble_eq_true rfl, Nat.le_of_ble_eq_true rfl⟩ (fun V2 H locs hp2 hM hS => ?_)
  refine lv_aload_n hx hb dX6_putOn_5 rfl (lv_at hl 1 rfl) ?_
  refine lv_iconst (v := 2) hx hb dX6_putOn_6 (by decide) ?_
  refine w_cVv (C := RX3) (As := [.int 2]) (rest := []) ⟨hx, hb, hml, hown, hts⟩ (c_X3_push l rw506 hp2.1 (by simp) 2) (cwV 1 hts gX6_putOn_X3_push rfl rfl rfl (by decide +kernel) ⟨Nat.le_of_ble_eq_true rfl, Nat.le_of_ble_eq_true rfl⟩) (w_recv (ci := 3) hK hM (by decide) (by decide) (by decide) rfl) hM hK hS rfl hl.1 rfl (lv_room (Nat.le_of_ble_eq_true rfl)) dX6_putOn_7 ⟨Nat.le_of_ble_eq_true rfl, Nat.le_of_ble_eq_true rfl⟩ (fun V7 H locs hp7 hM hS => ?_)
  have f7 := hp2.2.trans hp7.2
  have t7 := hT.1.otherR f7 (by omega) (by omega) (by omega)
  refine lv_aload_n hx hb dX6_putOn_10 rfl (lv_at hl 1 rfl) ?_
  refine lv_aload_n hx hb dX6_putOn_11 rfl (lv_at hl 0 rfl) ?_
  refine w_gr 6 0 (b + 1) (T := TX6) (N := 5) hx hb hts in6 hown hK.1 hM (hb1).lt (hb1).k (hb1).n (hb1).f0 (by decide) rfl (by decide) k14 rfl dX6_putOn_12 ?_
  refine w_gi 3 1 (T := TX3) (N := 2) hx hb hts in3 hown hK.1 hM ((hb1).name).lt ((hb1).name).k ((hb1).name).n ((hb1).name).f1 (by decide) rfl (by decide) k37 rfl dX6_putOn_15 ?_
  have q : (V7 (b + 1) 1 : Int32) = nI T.1.length := t7.1
  refine lv_eqi q ?_
  refine w_cVv (C := RX3) (As := [.int (nI T.1.length)]) (rest := []) ⟨hx, hb, hml, hown, hts⟩ (c_X3_push l rw506 hp7.1 (by simp) (nI T.1.length)) (cwV 1 hts gX6_putOn_X3_push rfl rfl rfl (by decide +kernel) ⟨Nat.le_of_ble_eq_true rfl, Nat.le_of_ble_eq_true rfl⟩) (w_recv (ci := 3) hK hM (by decide) (by decide) (by decide) rfl) hM hK hS rfl hl.1 rfl (lv_room (Nat.le_of_ble_eq_true rfl)) dX6_putOn_18 ⟨Nat.le_of_ble_eq_true rfl, Nat.le_of_ble_eq_true rfl⟩ (fun V18 H locs hp18 hM hS => ?_)
  have t18 := t7.otherR hp18.2 (by omega) (by omega) (by omega)
  refine lv_aload_n hx hb dX6_putOn_21 rfl (lv_at hl 1 rfl) ?_
  refine lv_aload_n hx hb dX6_putOn_22 rfl (lv_at hl 0 rfl) ?_
  refine w_gr 6 0 (b + 1) (T := TX6) (N := 5) hx hb hts in6 hown hK.1 hM (hb1).lt (hb1).k (hb1).n (hb1).f0 (by decide) rfl (by decide) k14 rfl dX6_putOn_23 ?_
  refine w_cVv (C := RX3) (As := [.ref (E.1 + (b + 1))]) (rest := []) ⟨hx, hb, hml, hown, hts⟩ (c_X3_pushAll l rw506 hb1.name (by omega) hp18.1 t18 (by omega) (by simp; omega)) (cwV 1 hts gX6_putOn_X3_pushAll rfl rfl rfl (by decide +kernel) ⟨Nat.le_of_ble_eq_true rfl, Nat.le_of_ble_eq_true rfl⟩) (w_recv (ci := 3) hK hM (by decide) (by decide) (by decide) rfl) hM hK hS rfl hl.1 rfl (lv_room (Nat.le_of_ble_eq_true rfl)) dX6_putOn_26 ⟨Nat.le_of_ble_eq_true rfl, Nat.le_of_ble_eq_true rfl⟩ (fun V26 H locs hp26 hM hS => ?_)
  refine lv_aload_n hx hb dX6_putOn_29 rfl (lv_at hl 1 rfl) ?_
  refine lv_iconst (v := 0) hx hb dX6_putOn_30 (by decide) ?_
  refine w_cVv (C := RX3) (As := [.int 0]) (rest := []) ⟨hx, hb, hml, hown, hts⟩ (c_X3_push l rw506 hp26.1 (by simp; omega) 0) (cwV 1 hts gX6_putOn_X3_push rfl rfl rfl (by decide +kernel) ⟨Nat.le_of_ble_eq_true rfl, Nat.le_of_ble_eq_true rfl⟩) (w_recv (ci := 3) hK hM (by decide) (by decide) (by decide) rfl) hM hK hS rfl hl.1 rfl (lv_room (Nat.le_of_ble_eq_true rfl)) dX6_putOn_31 ⟨Nat.le_of_ble_eq_true rfl, Nat.le_of_ble_eq_true rfl⟩ (fun V31 H locs hp31 hM hS => ?_)
  have f31 : frR V V31 506 := ((f7.trans hp18.2).trans hp26.2).trans hp31.2
  refine lv_iconst (v := 0) hx hb dX6_putOn_34 (by decide) ?_
  refine lv_istore_n (lv' := [(2, .int 0), (0, .ref (E.1 + b)), (1, .ref (E.1 + 506))]) hx hb dX6_putOn_35 rfl hl (by decide) rfl (fun ls hl => ?_)
  have loop36 : ∀ (fu : Nat) (Vw : Vt) (H : Heap) (locs : List Loc) (ls : Array Slot) (j : Nat) (x : Int32) (ex : x = nI j) (hj : j ≤ T.2.2.length) (hr : rowIs Vw 506 (((([] ++ [2]) ++ [2]) ++ [nI T.1.length] ++ T.1) ++ [0] ++ (T.2.2.take j).flatMap limB)) (hf : frR V Vw 506), T.2.2.length - j < fu → Wd E Vw H → va_S (AE E) s.heap H locs → lv_has ls 3 [(0, .ref (E.1 + b)), (1, .ref (E.1 + 506)), (2, .int x)] → W p l e (headSpec wsX6_putOn (rmD 4)).room s m ([.ref (E.1 + b), .ref (E.1 + 506)] : List Value).toArray below meth c H locs 0 0 (MQ below (QV E (fun V' => Wd E V') (fun V' => rowIs V' 506 (tokB T) ∧ frR V V' 506)) ([.ref (E.1 + b), .ref (E.1 + 506)] : List Value).toArray s 0 0 (AE E)) (F0 m 36 ls []) := by
    intro fu
    induction fu with
    | zero => intros; omega
    | succ fu ih =>
      intro Vw H locs ls j x ex hj hr hf hfu hM hS hl
      have tkw : tokIs Vw b T := hT.otherI hn (hf.toI (lo := 506) (hi := 507) (by omega)) (by omega)
      refine lv_iload_n hx hb dX6_putOn_36 rfl (lv_at hl 2 rfl) ?_
      refine lv_aload_n hx hb dX6_putOn_37 rfl (lv_at hl 0 rfl) ?_
      refine w_gi 6 3 (T := TX6) (N := 5) hx hb hts in6 hown hK.1 hM (hb1).lt (hb1).k (hb1).n (hb1).f3 (by decide) rfl (by decide) k30 rfl dX6_putOn_38 ?_
      have q : (Vw b 3 : Int32) = nI T.2.2.length := tkw.2.2.1
      refine lv_eqi q ?_
      refine lv_icmp_ge (tgt := 60) hx hb dX6_putOn_41 (by decide) (fun c_41 => ?_) (fun c_41 => ?_)
      · have hjn : j = T.2.2.length := by have := nI_lei ex c_41 (by omega) (by omega); omega
        refine lv_aload_n hx hb dX6_putOn_60 rfl (lv_at hl 1 rfl) ?_
        refine lv_iconst (v := 0) hx hb dX6_putOn_61 (by decide) ?_
        refine w_cVv (C := RX3) (As := [.int 0]) (rest := []) ⟨hx, hb, hml, hown, hts⟩ (c_X3_push l rw506 hr (by (have := take_len hok.2.2.2 hj; simp at this ⊢; omega)) 0) (cwV 1 hts gX6_putOn_X3_push rfl rfl rfl (by decide +kernel) ⟨Nat.le_of_ble_eq_true rfl, Nat.le_of_ble_eq_true rfl⟩) (w_recv (ci := 3) hK hM (by decide) (by decide) (by decide) rfl) hM hK hS rfl hl.1 rfl (lv_room (Nat.le_of_ble_eq_true rfl)) dX6_putOn_62 ⟨Nat.le_of_ble_eq_true rfl, Nat.le_of_ble_eq_true rfl⟩ (fun V62 H locs hp62 hM hS => ?_)
        have f62 := hf.trans hp62.2
        refine lv_aload_n hx hb dX6_putOn_65 rfl (lv_at hl 1 rfl) ?_
        refine lv_bipush (v := 6) hx hb dX6_putOn_66 (by decide) ?_
        refine w_cVv (C := RX3) (As := [.int 6]) (rest := []) ⟨hx, hb, hml, hown, hts⟩ (c_X3_push l rw506 hp62.1 (by (have := take_len hok.2.2.2 hj; simp at this ⊢; omega)) 6) (cwV 1 hts gX6_putOn_X3_push rfl rfl rfl (by decide +kernel) ⟨Nat.le_of_ble_eq_true rfl, Nat.le_of_ble_eq_true rfl⟩) (w_recv (ci := 3) hK hM (by decide) (by decide) (by decide) rfl) hM hK hS rfl hl.1 rfl (lv_room (Nat.le_of_ble_eq_true rfl)) dX6_putOn_68 ⟨Nat.le_of_ble_eq_true rfl, Nat.le_of_ble_eq_true rfl⟩ (fun V68 H locs hp68 hM hS => ?_)
        refine lv_aload_n hx hb dX6_putOn_71 rfl (lv_at hl 1 rfl) ?_
        refine lv_bipush (v := 32) hx hb dX6_putOn_72 (by decide) ?_
        refine w_cVv (C := RX3) (As := [.int 32]) (rest := []) ⟨hx, hb, hml, hown, hts⟩ (c_X3_push l rw506 hp68.1 (by (have := take_len hok.2.2.2 hj; simp at this ⊢; omega)) 32) (cwV 1 hts gX6_putOn_X3_push rfl rfl rfl (by decide +kernel) ⟨Nat.le_of_ble_eq_true rfl, Nat.le_of_ble_eq_true rfl⟩) (w_recv (ci := 3) hK hM (by decide) (by decide) (by decide) rfl) hM hK hS rfl hl.1 rfl (lv_room (Nat.le_of_ble_eq_true rfl)) dX6_putOn_74 ⟨Nat.le_of_ble_eq_true rfl, Nat.le_of_ble_eq_true rfl⟩ (fun V74 H locs hp74 hM hS => ?_)
        have f74 := (f62.trans hp68.2).trans hp74.2
        have s74 := hT.2.1.otherR f74 (by omega) (by omega) (by omega)
        refine lv_aload_n hx hb dX6_putOn_77 rfl (lv_at hl 1 rfl) ?_
        refine lv_aload_n hx hb dX6_putOn_78 rfl (lv_at hl 0 rfl) ?_
        refine w_gr 6 1 (b + 3) (T := TX6) (N := 5) hx hb hts in6 hown hK.1 hM (hb1).lt (hb1).k (hb1).n (hb1).f1 (by decide) rfl (by decide) k20 rfl dX6_putOn_79 ?_
        refine w_cVv (C := RX3) (As := [.ref (E.1 + (b + 3))]) (rest := []) ⟨hx, hb, hml, hown, hts⟩ (c_X3_pushAll l rw506 hb1.sign (by omega) hp74.1 s74 (by omega) (by have := take_len hok.2.2.2 hj; simp at this ⊢; omega)) (cwV 1 hts gX6_putOn_X3_pushAll rfl rfl rfl (by decide +kernel) ⟨Nat.le_of_ble_eq_true rfl, Nat.le_of_ble_eq_true rfl⟩) (w_recv (ci := 3) hK hM (by decide) (by decide) (by decide) rfl) hM hK hS rfl hl.1 rfl (lv_room (Nat.le_of_ble_eq_true rfl)) dX6_putOn_82 ⟨Nat.le_of_ble_eq_true rfl, Nat.le_of_ble_eq_true rfl⟩ (fun V82 H locs hp82 hM hS => ?_)
        exact w_vret (free := AE E) V82 hx hb hret hK hS hM (⟨by have := hp82.1; rw [hjn, List.take_of_length_le (Nat.le_refl _)] at this; unfold tokB; simpa using this, f74.trans hp82.2⟩) hlocks dX6_putOn_85
      · have hlt := nI_ltn ex c_41 (by omega) (by omega)
        have hj10 : j < 10 := by omega
        refine lv_aload_n hx hb dX6_putOn_44 rfl (lv_at hl 0 rfl) ?_
        refine w_gr 6 2 (b + 5) (T := TX6) (N := 5) hx hb hts in6 hown hK.1 hM (hb1).lt (hb1).k (hb1).n (hb1).f2 (by decide) rfl (by decide) k25 rfl dX6_putOn_45 ?_
        refine lv_iload_n hx hb dX6_putOn_48 rfl (lv_at hl 2 rfl) ?_
        refine w_ald (N := 10) 2 hx hb hK.1 hM (hb1).lt5 (by first | rfl | (rw [(hb1).k5]; rfl)) (by first | decide | (rw [(hb1).k5]; decide)) (hb1).n5 (by rw [ex]; exact vp_in_nI hj10 (by omega)) (b + 6 + 5 * j) (by rw [ex, nI_clamp (by omega)]; exact hb1.fl hj10) dX6_putOn_49 ?_
        refine lv_aload_n hx hb dX6_putOn_50 rfl (lv_at hl 1 rfl) ?_
        refine w_cVv (C := RX1) (As := [.ref (E.1 + 506)]) (rest := []) ⟨hx, hb, hml, hown, hts⟩ (c_X1_putOn l (hb1.lim hj10) (by omega) (tkw.2.2.2 j hlt) (hok.2.2.2 j hlt) hr (by have := take_len hok.2.2.2 hj; simp at this ⊢; omega)) (cwV 1 hts gX6_putOn_X1_putOn rfl rfl rfl (by decide +kernel) ⟨Nat.le_of_ble_eq_true rfl, Nat.le_of_ble_eq_true rfl⟩) (w_recv (ci := 1) hK hM (hb1.lim hj10).lt (hb1.lim hj10).k (by decide) rfl) hM hK hS rfl hl.1 rfl (lv_room (Nat.le_of_ble_eq_true rfl)) dX6_putOn_51 ⟨Nat.le_of_ble_eq_true rfl, Nat.le_of_ble_eq_true rfl⟩ (fun V51 H locs hp51 hM hS => ?_)
        obtain ⟨x2_54, ex2_54⟩ : ∃ y : Int32, y = x + 1 := ⟨_, rfl⟩
        refine lv_iinc (v := x2_54) (lv' := [(2, .int x2_54), (0, .ref (E.1 + b)), (1, .ref (E.1 + 506))]) hx hb dX6_putOn_54 hl (k := 2) rfl (by rw [ex2_54]; rfl) (by decide) rfl (fun ls hl => ?_)
        refine lv_goto (tgt := 36) hx hb dX6_putOn_57 (by decide) ?_
        exact ih V51 _ _ _ (j + 1) _ (by rw [ex2_54, ex, nI_1]) (by omega) (by rw [take_flat hlt]; have := hp51.1; simpa using this) (hf.trans hp51.2) (by omega) hM hS (lv_sub hl [1, 2, 0] rfl)
  exact loop36 _ V31 _ _ _ 0 0 (rfl) (Nat.zero_le _) (by simpa using hp31.1) (f31) (Nat.lt_succ_self _) hM hS (lv_sub hl [1, 2, 0] rfl)
end
