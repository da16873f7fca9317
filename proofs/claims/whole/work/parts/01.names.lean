/-- a private method of a class that the tables say can be made, by its rows of tables_1 -/
def lw_okq (q : MethodName × Nat) : Prop := (q.1.cls ≠ "java/lang/invoke/MethodHandle" ∧ q.1.cls ≠ "java/lang/invoke/VarHandle") ∧ Cond.instantiable q.1.cls q.2 ∈ tables_1 ∧ Cond.privateMethod q.1 ∈ tables_1 ∧ Cond.instanceMethod q.1 ∈ tables_1
theorem lw_p0 : lw_okq (⟨"AlwaysTheTopTwo$Tape", "goesOn", "()V"⟩, 6) := ⟨⟨by decide +kernel, by decide +kernel⟩, List.mem_of_getElem? (i := 51) (by decide +kernel), List.mem_of_getElem? (i := 228) (by decide +kernel), List.mem_of_getElem? (i := 229) (by decide +kernel)⟩
theorem lw_p1 : lw_okq (⟨"AlwaysTheTopTwo$Tape", "byteAt", "(I)I"⟩, 6) := ⟨⟨by decide +kernel, by decide +kernel⟩, List.mem_of_getElem? (i := 51) (by decide +kernel), List.mem_of_getElem? (i := 232) (by decide +kernel), List.mem_of_getElem? (i := 233) (by decide +kernel)⟩
theorem lw_p2 : lw_okq (⟨"AlwaysTheTopTwo$Tape", "readsWord", "()I"⟩, 6) := ⟨⟨by decide +kernel, by decide +kernel⟩, List.mem_of_getElem? (i := 51) (by decide +kernel), List.mem_of_getElem? (i := 239) (by decide +kernel), List.mem_of_getElem? (i := 240) (by decide +kernel)⟩
theorem lw_p3 : lw_okq (⟨"AlwaysTheTopTwo$Tape", "stands", "(Ljava/lang/String;)Z"⟩, 6) := ⟨⟨by decide +kernel, by decide +kernel⟩, List.mem_of_getElem? (i := 51) (by decide +kernel), List.mem_of_getElem? (i := 258) (by decide +kernel), List.mem_of_getElem? (i := 259) (by decide +kernel)⟩
theorem lw_p4 : lw_okq (⟨"AlwaysTheTopTwo$Tape", "readsNumber", "()I"⟩, 6) := ⟨⟨by decide +kernel, by decide +kernel⟩, List.mem_of_getElem? (i := 51) (by decide +kernel), List.mem_of_getElem? (i := 313) (by decide +kernel), List.mem_of_getElem? (i := 314) (by decide +kernel)⟩
theorem lw_p5 : lw_okq (⟨"AlwaysTheTopTwo$Tape", "readsEither", "(LAlwaysTheTopTwo$Texts;I)Z"⟩, 6) := ⟨⟨by decide +kernel, by decide +kernel⟩, List.mem_of_getElem? (i := 51) (by decide +kernel), List.mem_of_getElem? (i := 320) (by decide +kernel), List.mem_of_getElem? (i := 321) (by decide +kernel)⟩
theorem lw_p6 : lw_okq (⟨"AlwaysTheTopTwo$Tape", "readsBoth", "(LAlwaysTheTopTwo$Texts;I)Z"⟩, 6) := ⟨⟨by decide +kernel, by decide +kernel⟩, List.mem_of_getElem? (i := 51) (by decide +kernel), List.mem_of_getElem? (i := 324) (by decide +kernel), List.mem_of_getElem? (i := 325) (by decide +kernel)⟩
theorem lw_p7 : lw_okq (⟨"AlwaysTheTopTwo$Tape", "readsNot", "(LAlwaysTheTopTwo$Texts;I)Z"⟩, 6) := ⟨⟨by decide +kernel, by decide +kernel⟩, List.mem_of_getElem? (i := 51) (by decide +kernel), List.mem_of_getElem? (i := 328) (by decide +kernel), List.mem_of_getElem? (i := 329) (by decide +kernel)⟩
theorem lw_p8 : lw_okq (⟨"AlwaysTheTopTwo$Tape", "readsSum", "(LAlwaysTheTopTwo$Texts;I)Z"⟩, 6) := ⟨⟨by decide +kernel, by decide +kernel⟩, List.mem_of_getElem? (i := 51) (by decide +kernel), List.mem_of_getElem? (i := 336) (by decide +kernel), List.mem_of_getElem? (i := 337) (by decide +kernel)⟩
theorem lw_p9 : lw_okq (⟨"AlwaysTheTopTwo$Tape", "readsTerm", "(LAlwaysTheTopTwo$Texts;I)Z"⟩, 6) := ⟨⟨by decide +kernel, by decide +kernel⟩, List.mem_of_getElem? (i := 51) (by decide +kernel), List.mem_of_getElem? (i := 340) (by decide +kernel), List.mem_of_getElem? (i := 341) (by decide +kernel)⟩
theorem lw_p10 : lw_okq (⟨"AlwaysTheTopTwo$Tape", "readsOne", "(LAlwaysTheTopTwo$Texts;I)Z"⟩, 6) := ⟨⟨by decide +kernel, by decide +kernel⟩, List.mem_of_getElem? (i := 51) (by decide +kernel), List.mem_of_getElem? (i := 344) (by decide +kernel), List.mem_of_getElem? (i := 345) (by decide +kernel)⟩
theorem lw_p11 : lw_okq (⟨"AlwaysTheTopTwo", "isLinen", "(I)Z"⟩, 8) := ⟨⟨by decide +kernel, by decide +kernel⟩, List.mem_of_getElem? (i := 16) (by decide +kernel), List.mem_of_getElem? (i := 421) (by decide +kernel), List.mem_of_getElem? (i := 422) (by decide +kernel)⟩
theorem lw_p12 : lw_okq (⟨"AlwaysTheTopTwo$House", "markOf", "(II)I"⟩, 10) := ⟨⟨by decide +kernel, by decide +kernel⟩, List.mem_of_getElem? (i := 77) (by decide +kernel), List.mem_of_getElem? (i := 490) (by decide +kernel), List.mem_of_getElem? (i := 491) (by decide +kernel)⟩
theorem lw_p13 : lw_okq (⟨"AlwaysTheTopTwo$House", "comesBack", "()V"⟩, 10) := ⟨⟨by decide +kernel, by decide +kernel⟩, List.mem_of_getElem? (i := 77) (by decide +kernel), List.mem_of_getElem? (i := 510) (by decide +kernel), List.mem_of_getElem? (i := 511) (by decide +kernel)⟩
theorem lw_p14 : lw_okq (⟨"AlwaysTheTopTwo$House", "yellows", "()V"⟩, 10) := ⟨⟨by decide +kernel, by decide +kernel⟩, List.mem_of_getElem? (i := 77) (by decide +kernel), List.mem_of_getElem? (i := 516) (by decide +kernel), List.mem_of_getElem? (i := 517) (by decide +kernel)⟩
theorem lw_p15 : lw_okq (⟨"AlwaysTheTopTwo$House", "tellsOf", "(I)V"⟩, 10) := ⟨⟨by decide +kernel, by decide +kernel⟩, List.mem_of_getElem? (i := 77) (by decide +kernel), List.mem_of_getElem? (i := 520) (by decide +kernel), List.mem_of_getElem? (i := 521) (by decide +kernel)⟩
def lw_privs_1 : List (MethodName × Nat) := [(⟨"AlwaysTheTopTwo$Tape", "goesOn", "()V"⟩, 6), (⟨"AlwaysTheTopTwo$Tape", "byteAt", "(I)I"⟩, 6), (⟨"AlwaysTheTopTwo$Tape", "readsWord", "()I"⟩, 6), (⟨"AlwaysTheTopTwo$Tape", "stands", "(Ljava/lang/String;)Z"⟩, 6), (⟨"AlwaysTheTopTwo$Tape", "readsNumber", "()I"⟩, 6), (⟨"AlwaysTheTopTwo$Tape", "readsEither", "(LAlwaysTheTopTwo$Texts;I)Z"⟩, 6), (⟨"AlwaysTheTopTwo$Tape", "readsBoth", "(LAlwaysTheTopTwo$Texts;I)Z"⟩, 6), (⟨"AlwaysTheTopTwo$Tape", "readsNot", "(LAlwaysTheTopTwo$Texts;I)Z"⟩, 6), (⟨"AlwaysTheTopTwo$Tape", "readsSum", "(LAlwaysTheTopTwo$Texts;I)Z"⟩, 6), (⟨"AlwaysTheTopTwo$Tape", "readsTerm", "(LAlwaysTheTopTwo$Texts;I)Z"⟩, 6), (⟨"AlwaysTheTopTwo$Tape", "readsOne", "(LAlwaysTheTopTwo$Texts;I)Z"⟩, 6), (⟨"AlwaysTheTopTwo", "isLinen", "(I)Z"⟩, 8), (⟨"AlwaysTheTopTwo$House", "markOf", "(II)I"⟩, 10), (⟨"AlwaysTheTopTwo$House", "comesBack", "()V"⟩, 10), (⟨"AlwaysTheTopTwo$House", "yellows", "()V"⟩, 10), (⟨"AlwaysTheTopTwo$House", "tellsOf", "(I)V"⟩, 10)]
theorem lw_r1 : ∀ q ∈ lw_privs_1, lw_okq q := List.forall_mem_cons.mpr ⟨lw_p0, List.forall_mem_cons.mpr ⟨lw_p1, List.forall_mem_cons.mpr ⟨lw_p2, List.forall_mem_cons.mpr ⟨lw_p3, List.forall_mem_cons.mpr ⟨lw_p4, List.forall_mem_cons.mpr ⟨lw_p5, List.forall_mem_cons.mpr ⟨lw_p6, List.forall_mem_cons.mpr ⟨lw_p7, List.forall_mem_cons.mpr ⟨lw_p8, List.forall_mem_cons.mpr ⟨lw_p9, List.forall_mem_cons.mpr ⟨lw_p10, List.forall_mem_cons.mpr ⟨lw_p11, List.forall_mem_cons.mpr ⟨lw_p12, List.forall_mem_cons.mpr ⟨lw_p13, List.forall_mem_cons.mpr ⟨lw_p14, List.forall_mem_cons.mpr ⟨lw_p15, fun _ h => absurd h List.not_mem_nil⟩⟩⟩⟩⟩⟩⟩⟩⟩⟩⟩⟩⟩⟩⟩⟩
theorem lw_p16 : lw_okq (⟨"AlwaysTheTopTwo$House", "washes", "(I)V"⟩, 10) := ⟨⟨by decide +kernel, by decide +kernel⟩, List.mem_of_getElem? (i := 77) (by decide +kernel), List.mem_of_getElem? (i := 532) (by decide +kernel), List.mem_of_getElem? (i := 533) (by decide +kernel)⟩
theorem lw_p17 : lw_okq (⟨"AlwaysTheTopTwo$House", "dropsYellow", "()V"⟩, 10) := ⟨⟨by decide +kernel, by decide +kernel⟩, List.mem_of_getElem? (i := 77) (by decide +kernel), List.mem_of_getElem? (i := 542) (by decide +kernel), List.mem_of_getElem? (i := 543) (by decide +kernel)⟩
theorem lw_p18 : lw_okq (⟨"AlwaysTheTopTwo", "thinks", "(I)V"⟩, 8) := ⟨⟨by decide +kernel, by decide +kernel⟩, List.mem_of_getElem? (i := 16) (by decide +kernel), List.mem_of_getElem? (i := 553) (by decide +kernel), List.mem_of_getElem? (i := 554) (by decide +kernel)⟩
theorem lw_p19 : lw_okq (⟨"AlwaysTheTopTwo", "thinksByRules", "(II)V"⟩, 8) := ⟨⟨by decide +kernel, by decide +kernel⟩, List.mem_of_getElem? (i := 16) (by decide +kernel), List.mem_of_getElem? (i := 593) (by decide +kernel), List.mem_of_getElem? (i := 594) (by decide +kernel)⟩
theorem lw_p20 : lw_okq (⟨"AlwaysTheTopTwo", "markOfLasting", "(I)I"⟩, 8) := ⟨⟨by decide +kernel, by decide +kernel⟩, List.mem_of_getElem? (i := 16) (by decide +kernel), List.mem_of_getElem? (i := 597) (by decide +kernel), List.mem_of_getElem? (i := 598) (by decide +kernel)⟩
theorem lw_p21 : lw_okq (⟨"AlwaysTheTopTwo", "thinksWith", "(III)V"⟩, 8) := ⟨⟨by decide +kernel, by decide +kernel⟩, List.mem_of_getElem? (i := 16) (by decide +kernel), List.mem_of_getElem? (i := 618) (by decide +kernel), List.mem_of_getElem? (i := 619) (by decide +kernel)⟩
theorem lw_p22 : lw_okq (⟨"AlwaysTheTopTwo", "refusalOfTelling", "(II)I"⟩, 8) := ⟨⟨by decide +kernel, by decide +kernel⟩, List.mem_of_getElem? (i := 16) (by decide +kernel), List.mem_of_getElem? (i := 635) (by decide +kernel), List.mem_of_getElem? (i := 636) (by decide +kernel)⟩
theorem lw_p23 : lw_okq (⟨"AlwaysTheTopTwo", "firstOtherwise", "(I)I"⟩, 8) := ⟨⟨by decide +kernel, by decide +kernel⟩, List.mem_of_getElem? (i := 16) (by decide +kernel), List.mem_of_getElem? (i := 647) (by decide +kernel), List.mem_of_getElem? (i := 648) (by decide +kernel)⟩
theorem lw_p24 : lw_okq (⟨"AlwaysTheTopTwo", "bitIfTold", "(II)I"⟩, 8) := ⟨⟨by decide +kernel, by decide +kernel⟩, List.mem_of_getElem? (i := 16) (by decide +kernel), List.mem_of_getElem? (i := 663) (by decide +kernel), List.mem_of_getElem? (i := 664) (by decide +kernel)⟩
theorem lw_p25 : lw_okq (⟨"AlwaysTheTopTwoModel", "goesNext", "()V"⟩, 47) := ⟨⟨by decide +kernel, by decide +kernel⟩, List.mem_of_getElem? (i := 766) (by decide +kernel), List.mem_of_getElem? (i := 776) (by decide +kernel), List.mem_of_getElem? (i := 777) (by decide +kernel)⟩
theorem lw_p26 : lw_okq (⟨"AlwaysTheTopTwoModel", "wordFrom", "(II)I"⟩, 47) := ⟨⟨by decide +kernel, by decide +kernel⟩, List.mem_of_getElem? (i := 766) (by decide +kernel), List.mem_of_getElem? (i := 783) (by decide +kernel), List.mem_of_getElem? (i := 784) (by decide +kernel)⟩
theorem lw_p27 : lw_okq (⟨"AlwaysTheTopTwoModel", "eRead", "()Z"⟩, 47) := ⟨⟨by decide +kernel, by decide +kernel⟩, List.mem_of_getElem? (i := 766) (by decide +kernel), List.mem_of_getElem? (i := 787) (by decide +kernel), List.mem_of_getElem? (i := 788) (by decide +kernel)⟩
theorem lw_p28 : lw_okq (⟨"AlwaysTheTopTwoModel", "puts", "(I)V"⟩, 47) := ⟨⟨by decide +kernel, by decide +kernel⟩, List.mem_of_getElem? (i := 766) (by decide +kernel), List.mem_of_getElem? (i := 792) (by decide +kernel), List.mem_of_getElem? (i := 793) (by decide +kernel)⟩
theorem lw_p29 : lw_okq (⟨"AlwaysTheTopTwoModel", "unwinds", "(I)V"⟩, 47) := ⟨⟨by decide +kernel, by decide +kernel⟩, List.mem_of_getElem? (i := 766) (by decide +kernel), List.mem_of_getElem? (i := 796) (by decide +kernel), List.mem_of_getElem? (i := 797) (by decide +kernel)⟩
theorem lw_p30 : lw_okq (⟨"AlwaysTheTopTwoModel", "opensOne", "(I)Z"⟩, 47) := ⟨⟨by decide +kernel, by decide +kernel⟩, List.mem_of_getElem? (i := 766) (by decide +kernel), List.mem_of_getElem? (i := 803) (by decide +kernel), List.mem_of_getElem? (i := 804) (by decide +kernel)⟩
theorem lw_p31 : lw_okq (⟨"AlwaysTheTopTwoModel", "holds", "(I)V"⟩, 47) := ⟨⟨by decide +kernel, by decide +kernel⟩, List.mem_of_getElem? (i := 766) (by decide +kernel), List.mem_of_getElem? (i := 807) (by decide +kernel), List.mem_of_getElem? (i := 808) (by decide +kernel)⟩
def lw_privs_2 : List (MethodName × Nat) := [(⟨"AlwaysTheTopTwo$House", "washes", "(I)V"⟩, 10), (⟨"AlwaysTheTopTwo$House", "dropsYellow", "()V"⟩, 10), (⟨"AlwaysTheTopTwo", "thinks", "(I)V"⟩, 8), (⟨"AlwaysTheTopTwo", "thinksByRules", "(II)V"⟩, 8), (⟨"AlwaysTheTopTwo", "markOfLasting", "(I)I"⟩, 8), (⟨"AlwaysTheTopTwo", "thinksWith", "(III)V"⟩, 8), (⟨"AlwaysTheTopTwo", "refusalOfTelling", "(II)I"⟩, 8), (⟨"AlwaysTheTopTwo", "firstOtherwise", "(I)I"⟩, 8), (⟨"AlwaysTheTopTwo", "bitIfTold", "(II)I"⟩, 8), (⟨"AlwaysTheTopTwoModel", "goesNext", "()V"⟩, 47), (⟨"AlwaysTheTopTwoModel", "wordFrom", "(II)I"⟩, 47), (⟨"AlwaysTheTopTwoModel", "eRead", "()Z"⟩, 47), (⟨"AlwaysTheTopTwoModel", "puts", "(I)V"⟩, 47), (⟨"AlwaysTheTopTwoModel", "unwinds", "(I)V"⟩, 47), (⟨"AlwaysTheTopTwoModel", "opensOne", "(I)Z"⟩, 47), (⟨"AlwaysTheTopTwoModel", "holds", "(I)V"⟩, 47)]
theorem lw_r2 : ∀ q ∈ lw_privs_2, lw_okq q := List.forall_mem_cons.mpr ⟨lw_p16, List.forall_mem_cons.mpr ⟨lw_p17, List.forall_mem_cons.mpr ⟨lw_p18, List.forall_mem_cons.mpr ⟨lw_p19, List.forall_mem_cons.mpr ⟨lw_p20, List.forall_mem_cons.mpr ⟨lw_p21, List.forall_mem_cons.mpr ⟨lw_p22, List.forall_mem_cons.mpr ⟨lw_p23, List.forall_mem_cons.mpr ⟨lw_p24, List.forall_mem_cons.mpr ⟨lw_p25, List.forall_mem_cons.mpr ⟨lw_p26, List.forall_mem_cons.mpr ⟨lw_p27, List.forall_mem_cons.mpr ⟨lw_p28, List.forall_mem_cons.mpr ⟨lw_p29, List.forall_mem_cons.mpr ⟨lw_p30, List.forall_mem_cons.mpr ⟨lw_p31, fun _ h => absurd h List.not_mem_nil⟩⟩⟩⟩⟩⟩⟩⟩⟩⟩⟩⟩⟩⟩⟩⟩
theorem lw_p32 : lw_okq (⟨"AlwaysTheTopTwoModel", "signOf", "()I"⟩, 47) := ⟨⟨by decide +kernel, by decide +kernel⟩, List.mem_of_getElem? (i := 766) (by decide +kernel), List.mem_of_getElem? (i := 811) (by decide +kernel), List.mem_of_getElem? (i := 812) (by decide +kernel)⟩
theorem lw_p33 : lw_okq (⟨"AlwaysTheTopTwoModel", "between", "(I)Z"⟩, 47) := ⟨⟨by decide +kernel, by decide +kernel⟩, List.mem_of_getElem? (i := 766) (by decide +kernel), List.mem_of_getElem? (i := 815) (by decide +kernel), List.mem_of_getElem? (i := 816) (by decide +kernel)⟩
theorem lw_p34 : lw_okq (⟨"AlwaysTheTopTwoModel", "asksOf", "(IIIII)I"⟩, 47) := ⟨⟨by decide +kernel, by decide +kernel⟩, List.mem_of_getElem? (i := 766) (by decide +kernel), List.mem_of_getElem? (i := 985) (by decide +kernel), List.mem_of_getElem? (i := 986) (by decide +kernel)⟩
theorem lw_p35 : lw_okq (⟨"AlwaysTheTopTwoModel", "says", "(I)I"⟩, 47) := ⟨⟨by decide +kernel, by decide +kernel⟩, List.mem_of_getElem? (i := 766) (by decide +kernel), List.mem_of_getElem? (i := 989) (by decide +kernel), List.mem_of_getElem? (i := 990) (by decide +kernel)⟩
theorem lw_p36 : lw_okq (⟨"AlwaysTheTopTwoModel", "lays", "(I)V"⟩, 47) := ⟨⟨by decide +kernel, by decide +kernel⟩, List.mem_of_getElem? (i := 766) (by decide +kernel), List.mem_of_getElem? (i := 1003) (by decide +kernel), List.mem_of_getElem? (i := 1004) (by decide +kernel)⟩
theorem lw_p37 : lw_okq (⟨"AlwaysTheTopTwoModel", "laysAt", "(II)V"⟩, 47) := ⟨⟨by decide +kernel, by decide +kernel⟩, List.mem_of_getElem? (i := 766) (by decide +kernel), List.mem_of_getElem? (i := 1007) (by decide +kernel), List.mem_of_getElem? (i := 1008) (by decide +kernel)⟩
theorem lw_p38 : lw_okq (⟨"AlwaysTheTopTwoModel", "isLinen", "(I)Z"⟩, 47) := ⟨⟨by decide +kernel, by decide +kernel⟩, List.mem_of_getElem? (i := 766) (by decide +kernel), List.mem_of_getElem? (i := 1015) (by decide +kernel), List.mem_of_getElem? (i := 1016) (by decide +kernel)⟩
theorem lw_p39 : lw_okq (⟨"AlwaysTheTopTwoModel", "lastsOf", "(I)I"⟩, 47) := ⟨⟨by decide +kernel, by decide +kernel⟩, List.mem_of_getElem? (i := 766) (by decide +kernel), List.mem_of_getElem? (i := 1019) (by decide +kernel), List.mem_of_getElem? (i := 1020) (by decide +kernel)⟩
theorem lw_p40 : lw_okq (⟨"AlwaysTheTopTwoModel", "mayTurn", "(I)Z"⟩, 47) := ⟨⟨by decide +kernel, by decide +kernel⟩, List.mem_of_getElem? (i := 766) (by decide +kernel), List.mem_of_getElem? (i := 1035) (by decide +kernel), List.mem_of_getElem? (i := 1036) (by decide +kernel)⟩
theorem lw_p41 : lw_okq (⟨"AlwaysTheTopTwoModel", "placeOf", "(I)I"⟩, 47) := ⟨⟨by decide +kernel, by decide +kernel⟩, List.mem_of_getElem? (i := 766) (by decide +kernel), List.mem_of_getElem? (i := 1039) (by decide +kernel), List.mem_of_getElem? (i := 1040) (by decide +kernel)⟩
theorem lw_p42 : lw_okq (⟨"AlwaysTheTopTwoModel", "turns", "(I)V"⟩, 47) := ⟨⟨by decide +kernel, by decide +kernel⟩, List.mem_of_getElem? (i := 766) (by decide +kernel), List.mem_of_getElem? (i := 1043) (by decide +kernel), List.mem_of_getElem? (i := 1044) (by decide +kernel)⟩
theorem lw_p43 : lw_okq (⟨"AlwaysTheTopTwoModel", "placeBy", "(I)I"⟩, 47) := ⟨⟨by decide +kernel, by decide +kernel⟩, List.mem_of_getElem? (i := 766) (by decide +kernel), List.mem_of_getElem? (i := 1051) (by decide +kernel), List.mem_of_getElem? (i := 1052) (by decide +kernel)⟩
theorem lw_p44 : lw_okq (⟨"AlwaysTheTopTwoModel", "turnsOver", "()V"⟩, 47) := ⟨⟨by decide +kernel, by decide +kernel⟩, List.mem_of_getElem? (i := 766) (by decide +kernel), List.mem_of_getElem? (i := 1059) (by decide +kernel), List.mem_of_getElem? (i := 1060) (by decide +kernel)⟩
theorem lw_p45 : lw_okq (⟨"AlwaysTheTopTwoModel", "areWrong", "(III)Z"⟩, 47) := ⟨⟨by decide +kernel, by decide +kernel⟩, List.mem_of_getElem? (i := 766) (by decide +kernel), List.mem_of_getElem? (i := 1063) (by decide +kernel), List.mem_of_getElem? (i := 1064) (by decide +kernel)⟩
theorem lw_p46 : lw_okq (⟨"AlwaysTheTopTwoModel", "begins", "()V"⟩, 47) := ⟨⟨by decide +kernel, by decide +kernel⟩, List.mem_of_getElem? (i := 766) (by decide +kernel), List.mem_of_getElem? (i := 1071) (by decide +kernel), List.mem_of_getElem? (i := 1072) (by decide +kernel)⟩
theorem lw_p47 : lw_okq (⟨"AlwaysTheTopTwoModel", "weekBy", "(III)V"⟩, 47) := ⟨⟨by decide +kernel, by decide +kernel⟩, List.mem_of_getElem? (i := 766) (by decide +kernel), List.mem_of_getElem? (i := 1075) (by decide +kernel), List.mem_of_getElem? (i := 1076) (by decide +kernel)⟩
def lw_privs_3 : List (MethodName × Nat) := [(⟨"AlwaysTheTopTwoModel", "signOf", "()I"⟩, 47), (⟨"AlwaysTheTopTwoModel", "between", "(I)Z"⟩, 47), (⟨"AlwaysTheTopTwoModel", "asksOf", "(IIIII)I"⟩, 47), (⟨"AlwaysTheTopTwoModel", "says", "(I)I"⟩, 47), (⟨"AlwaysTheTopTwoModel", "lays", "(I)V"⟩, 47), (⟨"AlwaysTheTopTwoModel", "laysAt", "(II)V"⟩, 47), (⟨"AlwaysTheTopTwoModel", "isLinen", "(I)Z"⟩, 47), (⟨"AlwaysTheTopTwoModel", "lastsOf", "(I)I"⟩, 47), (⟨"AlwaysTheTopTwoModel", "mayTurn", "(I)Z"⟩, 47), (⟨"AlwaysTheTopTwoModel", "placeOf", "(I)I"⟩, 47), (⟨"AlwaysTheTopTwoModel", "turns", "(I)V"⟩, 47), (⟨"AlwaysTheTopTwoModel", "placeBy", "(I)I"⟩, 47), (⟨"AlwaysTheTopTwoModel", "turnsOver", "()V"⟩, 47), (⟨"AlwaysTheTopTwoModel", "areWrong", "(III)Z"⟩, 47), (⟨"AlwaysTheTopTwoModel", "begins", "()V"⟩, 47), (⟨"AlwaysTheTopTwoModel", "weekBy", "(III)V"⟩, 47)]
theorem lw_r3 : ∀ q ∈ lw_privs_3, lw_okq q := List.forall_mem_cons.mpr ⟨lw_p32, List.forall_mem_cons.mpr ⟨lw_p33, List.forall_mem_cons.mpr ⟨lw_p34, List.forall_mem_cons.mpr ⟨lw_p35, List.forall_mem_cons.mpr ⟨lw_p36, List.forall_mem_cons.mpr ⟨lw_p37, List.forall_mem_cons.mpr ⟨lw_p38, List.forall_mem_cons.mpr ⟨lw_p39, List.forall_mem_cons.mpr ⟨lw_p40, List.forall_mem_cons.mpr ⟨lw_p41, List.forall_mem_cons.mpr ⟨lw_p42, List.forall_mem_cons.mpr ⟨lw_p43, List.forall_mem_cons.mpr ⟨lw_p44, List.forall_mem_cons.mpr ⟨lw_p45, List.forall_mem_cons.mpr ⟨lw_p46, List.forall_mem_cons.mpr ⟨lw_p47, fun _ h => absurd h List.not_mem_nil⟩⟩⟩⟩⟩⟩⟩⟩⟩⟩⟩⟩⟩⟩⟩⟩
theorem lw_p48 : lw_okq (⟨"AlwaysTheTopTwoModel", "comesBack", "()V"⟩, 47) := ⟨⟨by decide +kernel, by decide +kernel⟩, List.mem_of_getElem? (i := 766) (by decide +kernel), List.mem_of_getElem? (i := 1079) (by decide +kernel), List.mem_of_getElem? (i := 1080) (by decide +kernel)⟩
theorem lw_p49 : lw_okq (⟨"AlwaysTheTopTwoModel", "takesSo", "(II)I"⟩, 47) := ⟨⟨by decide +kernel, by decide +kernel⟩, List.mem_of_getElem? (i := 766) (by decide +kernel), List.mem_of_getElem? (i := 1083) (by decide +kernel), List.mem_of_getElem? (i := 1084) (by decide +kernel)⟩
theorem lw_p50 : lw_okq (⟨"AlwaysTheTopTwoModel", "takesFrom", "(I)I"⟩, 47) := ⟨⟨by decide +kernel, by decide +kernel⟩, List.mem_of_getElem? (i := 766) (by decide +kernel), List.mem_of_getElem? (i := 1087) (by decide +kernel), List.mem_of_getElem? (i := 1088) (by decide +kernel)⟩
theorem lw_p51 : lw_okq (⟨"AlwaysTheTopTwoModel", "lie", "()V"⟩, 47) := ⟨⟨by decide +kernel, by decide +kernel⟩, List.mem_of_getElem? (i := 766) (by decide +kernel), List.mem_of_getElem? (i := 1091) (by decide +kernel), List.mem_of_getElem? (i := 1092) (by decide +kernel)⟩
theorem lw_p52 : lw_okq (⟨"AlwaysTheTopTwoModel", "yellowsOf", "(I)I"⟩, 47) := ⟨⟨by decide +kernel, by decide +kernel⟩, List.mem_of_getElem? (i := 766) (by decide +kernel), List.mem_of_getElem? (i := 1095) (by decide +kernel), List.mem_of_getElem? (i := 1096) (by decide +kernel)⟩
theorem lw_p53 : lw_okq (⟨"AlwaysTheTopTwoModel", "washes", "(II)V"⟩, 47) := ⟨⟨by decide +kernel, by decide +kernel⟩, List.mem_of_getElem? (i := 766) (by decide +kernel), List.mem_of_getElem? (i := 1099) (by decide +kernel), List.mem_of_getElem? (i := 1100) (by decide +kernel)⟩
theorem lw_p54 : lw_okq (⟨"AlwaysTheTopTwoModel", "wearsOf", "(I)I"⟩, 47) := ⟨⟨by decide +kernel, by decide +kernel⟩, List.mem_of_getElem? (i := 766) (by decide +kernel), List.mem_of_getElem? (i := 1103) (by decide +kernel), List.mem_of_getElem? (i := 1104) (by decide +kernel)⟩
theorem lw_p55 : lw_okq (⟨"AlwaysTheTopTwoModel", "goesToCloths", "(II)V"⟩, 47) := ⟨⟨by decide +kernel, by decide +kernel⟩, List.mem_of_getElem? (i := 766) (by decide +kernel), List.mem_of_getElem? (i := 1107) (by decide +kernel), List.mem_of_getElem? (i := 1108) (by decide +kernel)⟩
theorem lw_p56 : lw_okq (⟨"AlwaysTheTopTwoModel", "sorts", "(I)V"⟩, 47) := ⟨⟨by decide +kernel, by decide +kernel⟩, List.mem_of_getElem? (i := 766) (by decide +kernel), List.mem_of_getElem? (i := 1111) (by decide +kernel), List.mem_of_getElem? (i := 1112) (by decide +kernel)⟩
theorem lw_p57 : lw_okq (⟨"AlwaysTheTopTwoModel", "goes", "(I)V"⟩, 47) := ⟨⟨by decide +kernel, by decide +kernel⟩, List.mem_of_getElem? (i := 766) (by decide +kernel), List.mem_of_getElem? (i := 1122) (by decide +kernel), List.mem_of_getElem? (i := 1123) (by decide +kernel)⟩
theorem lw_p58 : lw_okq (⟨"AlwaysTheTopTwoModel", "keeps", "()V"⟩, 47) := ⟨⟨by decide +kernel, by decide +kernel⟩, List.mem_of_getElem? (i := 766) (by decide +kernel), List.mem_of_getElem? (i := 1126) (by decide +kernel), List.mem_of_getElem? (i := 1127) (by decide +kernel)⟩
theorem lw_p59 : lw_okq (⟨"AlwaysTheTopTwoModel", "laysBack", "()V"⟩, 47) := ⟨⟨by decide +kernel, by decide +kernel⟩, List.mem_of_getElem? (i := 766) (by decide +kernel), List.mem_of_getElem? (i := 1130) (by decide +kernel), List.mem_of_getElem? (i := 1131) (by decide +kernel)⟩
theorem lw_p60 : lw_okq (⟨"AlwaysTheTopTwoModel", "leftMany", "()I"⟩, 47) := ⟨⟨by decide +kernel, by decide +kernel⟩, List.mem_of_getElem? (i := 766) (by decide +kernel), List.mem_of_getElem? (i := 1134) (by decide +kernel), List.mem_of_getElem? (i := 1135) (by decide +kernel)⟩
theorem lw_p61 : lw_okq (⟨"AlwaysTheTopTwoModel", "mostWorn", "()I"⟩, 47) := ⟨⟨by decide +kernel, by decide +kernel⟩, List.mem_of_getElem? (i := 766) (by decide +kernel), List.mem_of_getElem? (i := 1138) (by decide +kernel), List.mem_of_getElem? (i := 1139) (by decide +kernel)⟩
theorem lw_p62 : lw_okq (⟨"AlwaysTheTopTwoModel", "goneOf", "(III)I"⟩, 47) := ⟨⟨by decide +kernel, by decide +kernel⟩, List.mem_of_getElem? (i := 766) (by decide +kernel), List.mem_of_getElem? (i := 1162) (by decide +kernel), List.mem_of_getElem? (i := 1163) (by decide +kernel)⟩
theorem lw_p63 : lw_okq (⟨"AlwaysTheTopTwoModel", "tooFewBy", "(III)I"⟩, 47) := ⟨⟨by decide +kernel, by decide +kernel⟩, List.mem_of_getElem? (i := 766) (by decide +kernel), List.mem_of_getElem? (i := 1170) (by decide +kernel), List.mem_of_getElem? (i := 1171) (by decide +kernel)⟩
def lw_privs_4 : List (MethodName × Nat) := [(⟨"AlwaysTheTopTwoModel", "comesBack", "()V"⟩, 47), (⟨"AlwaysTheTopTwoModel", "takesSo", "(II)I"⟩, 47), (⟨"AlwaysTheTopTwoModel", "takesFrom", "(I)I"⟩, 47), (⟨"AlwaysTheTopTwoModel", "lie", "()V"⟩, 47), (⟨"AlwaysTheTopTwoModel", "yellowsOf", "(I)I"⟩, 47), (⟨"AlwaysTheTopTwoModel", "washes", "(II)V"⟩, 47), (⟨"AlwaysTheTopTwoModel", "wearsOf", "(I)I"⟩, 47), (⟨"AlwaysTheTopTwoModel", "goesToCloths", "(II)V"⟩, 47), (⟨"AlwaysTheTopTwoModel", "sorts", "(I)V"⟩, 47), (⟨"AlwaysTheTopTwoModel", "goes", "(I)V"⟩, 47), (⟨"AlwaysTheTopTwoModel", "keeps", "()V"⟩, 47), (⟨"AlwaysTheTopTwoModel", "laysBack", "()V"⟩, 47), (⟨"AlwaysTheTopTwoModel", "leftMany", "()I"⟩, 47), (⟨"AlwaysTheTopTwoModel", "mostWorn", "()I"⟩, 47), (⟨"AlwaysTheTopTwoModel", "goneOf", "(III)I"⟩, 47), (⟨"AlwaysTheTopTwoModel", "tooFewBy", "(III)I"⟩, 47)]
theorem lw_r4 : ∀ q ∈ lw_privs_4, lw_okq q := List.forall_mem_cons.mpr ⟨lw_p48, List.forall_mem_cons.mpr ⟨lw_p49, List.forall_mem_cons.mpr ⟨lw_p50, List.forall_mem_cons.mpr ⟨lw_p51, List.forall_mem_cons.mpr ⟨lw_p52, List.forall_mem_cons.mpr ⟨lw_p53, List.forall_mem_cons.mpr ⟨lw_p54, List.forall_mem_cons.mpr ⟨lw_p55, List.forall_mem_cons.mpr ⟨lw_p56, List.forall_mem_cons.mpr ⟨lw_p57, List.forall_mem_cons.mpr ⟨lw_p58, List.forall_mem_cons.mpr ⟨lw_p59, List.forall_mem_cons.mpr ⟨lw_p60, List.forall_mem_cons.mpr ⟨lw_p61, List.forall_mem_cons.mpr ⟨lw_p62, List.forall_mem_cons.mpr ⟨lw_p63, fun _ h => absurd h List.not_mem_nil⟩⟩⟩⟩⟩⟩⟩⟩⟩⟩⟩⟩⟩⟩⟩⟩
theorem lw_p64 : lw_okq (⟨"AlwaysTheTopTwoModel", "toldWrong", "(II)I"⟩, 47) := ⟨⟨by decide +kernel, by decide +kernel⟩, List.mem_of_getElem? (i := 766) (by decide +kernel), List.mem_of_getElem? (i := 1187) (by decide +kernel), List.mem_of_getElem? (i := 1188) (by decide +kernel)⟩
theorem lw_p65 : lw_okq (⟨"AlwaysTheTopTwoModel", "sheetWrong", "(I)I"⟩, 47) := ⟨⟨by decide +kernel, by decide +kernel⟩, List.mem_of_getElem? (i := 766) (by decide +kernel), List.mem_of_getElem? (i := 1191) (by decide +kernel), List.mem_of_getElem? (i := 1192) (by decide +kernel)⟩
theorem lw_p66 : lw_okq (⟨"AlwaysTheTopTwoModel", "unlike", "(II)I"⟩, 47) := ⟨⟨by decide +kernel, by decide +kernel⟩, List.mem_of_getElem? (i := 766) (by decide +kernel), List.mem_of_getElem? (i := 1195) (by decide +kernel), List.mem_of_getElem? (i := 1196) (by decide +kernel)⟩
theorem lw_p67 : lw_okq (⟨"AlwaysTheTopTwoModel", "goesBroken", "(III)V"⟩, 47) := ⟨⟨by decide +kernel, by decide +kernel⟩, List.mem_of_getElem? (i := 766) (by decide +kernel), List.mem_of_getElem? (i := 1228) (by decide +kernel), List.mem_of_getElem? (i := 1229) (by decide +kernel)⟩
theorem lw_p68 : lw_okq (⟨"AlwaysTheTopTwoModel", "wornAll", "()I"⟩, 47) := ⟨⟨by decide +kernel, by decide +kernel⟩, List.mem_of_getElem? (i := 766) (by decide +kernel), List.mem_of_getElem? (i := 1235) (by decide +kernel), List.mem_of_getElem? (i := 1236) (by decide +kernel)⟩
def lw_privs_5 : List (MethodName × Nat) := [(⟨"AlwaysTheTopTwoModel", "toldWrong", "(II)I"⟩, 47), (⟨"AlwaysTheTopTwoModel", "sheetWrong", "(I)I"⟩, 47), (⟨"AlwaysTheTopTwoModel", "unlike", "(II)I"⟩, 47), (⟨"AlwaysTheTopTwoModel", "goesBroken", "(III)V"⟩, 47), (⟨"AlwaysTheTopTwoModel", "wornAll", "()I"⟩, 47)]
theorem lw_r5 : ∀ q ∈ lw_privs_5, lw_okq q := List.forall_mem_cons.mpr ⟨lw_p64, List.forall_mem_cons.mpr ⟨lw_p65, List.forall_mem_cons.mpr ⟨lw_p66, List.forall_mem_cons.mpr ⟨lw_p67, List.forall_mem_cons.mpr ⟨lw_p68, fun _ h => absurd h List.not_mem_nil⟩⟩⟩⟩⟩
def lw_privs : List (MethodName × Nat) := lw_privs_1 ++ (lw_privs_2 ++ (lw_privs_3 ++ (lw_privs_4 ++ (lw_privs_5))))
def lw_tbl : List Cond := k2_sels lw_privs ++ tables_1
theorem lw_privs_ok : ∀ q ∈ lw_privs, lw_okq q := by
  show ∀ q ∈ lw_privs_1 ++ (lw_privs_2 ++ (lw_privs_3 ++ (lw_privs_4 ++ (lw_privs_5)))), lw_okq q
  exact List.forall_mem_append.mpr ⟨lw_r1, List.forall_mem_append.mpr ⟨lw_r2, List.forall_mem_append.mpr ⟨lw_r3, List.forall_mem_append.mpr ⟨lw_r4, lw_r5⟩⟩⟩⟩
def RX0 : String := "AlwaysTheTopTwo$House"
def TX0 : u_T := fun k => match k with
  | 0 => ("AlwaysTheTopTwo$House", "linen", "LAlwaysTheTopTwo$Linen;", true)
  | 1 => ("AlwaysTheTopTwo$House", "pile", "LAlwaysTheTopTwo$Pile;", true)
  | 2 => ("AlwaysTheTopTwo$House", "rule", "[I", true)
  | 3 => ("AlwaysTheTopTwo$House", "week", "I", false)
  | 4 => ("AlwaysTheTopTwo$House", "law", "I", false)
  | 5 => ("AlwaysTheTopTwo$House", "tooFew", "I", false)
  | 6 => ("AlwaysTheTopTwo$House", "out", "I", false)
  | 7 => ("AlwaysTheTopTwo$House", "first", "I", false)
  | 8 => ("AlwaysTheTopTwo$House", "lived", "I", false)
  | _ => ("AlwaysTheTopTwo$House", "texts", "LAlwaysTheTopTwo$Texts;", true)
def tyX0 : Nat → FieldType := fun k => match k with
  | 0 => .object "AlwaysTheTopTwo$Linen"
  | 1 => .object "AlwaysTheTopTwo$Pile"
  | 2 => .array .int
  | 3 => .int
  | 4 => .int
  | 5 => .int
  | 6 => .int
  | 7 => .int
  | 8 => .int
  | _ => .object "AlwaysTheTopTwo$Texts"
abbrev wsX00 : List Cond := u_ws RX0 TX0 10
theorem nmX0 : ∀ a, a < 10 → ∀ b, b < 10 → a ≠ b → (TX0 a).2.1 ≠ (TX0 b).2.1 := by decide +kernel
theorem tyX0_ok : ∀ k, k < 10 → parseFieldDescriptor (TX0 k).2.2.1 = some (tyX0 k) := by decide +kernel
abbrev cX0_init : ByteArray := prog_2_method_1_code
def yX0_init : MethodName := ⟨RX0, "<init>", "(LAlwaysTheTopTwo$Texts;)V"⟩
abbrev cX0_beginsAs : ByteArray := prog_2_method_2_code
def yX0_beginsAs : MethodName := ⟨RX0, "beginsAs", "(LAlwaysTheTopTwo$House;)V"⟩
abbrev cX0_canTurn : ByteArray := prog_2_method_3_code
def yX0_canTurn : MethodName := ⟨RX0, "canTurn", "(I)Z"⟩
abbrev cX0_turnsOver : ByteArray := prog_2_method_4_code
def yX0_turnsOver : MethodName := ⟨RX0, "turnsOver", "(I)V"⟩
abbrev cX0_laysDown : ByteArray := prog_2_method_5_code
def yX0_laysDown : MethodName := ⟨RX0, "laysDown", "(I)V"⟩
abbrev cX0_placeToTake : ByteArray := prog_2_method_6_code
def yX0_placeToTake : MethodName := ⟨RX0, "placeToTake", "(I)I"⟩
abbrev cX0_sortsPile : ByteArray := prog_2_method_7_code
def yX0_sortsPile : MethodName := ⟨RX0, "sortsPile", "(I)V"⟩
abbrev cX0_markOf : ByteArray := prog_2_method_8_code
def yX0_markOf : MethodName := ⟨RX0, "markOf", "(II)I"⟩
abbrev cX0_livesWeeks : ByteArray := prog_2_method_9_code
def yX0_livesWeeks : MethodName := ⟨RX0, "livesWeeks", "(I)V"⟩
abbrev cX0_livesByLot : ByteArray := prog_2_method_10_code
def yX0_livesByLot : MethodName := ⟨RX0, "livesByLot", "(III)V"⟩
abbrev cX0_weekOfCloths : ByteArray := prog_2_method_11_code
def yX0_weekOfCloths : MethodName := ⟨RX0, "weekOfCloths", "(II)I"⟩
abbrev cX0_livesWeek : ByteArray := prog_2_method_12_code
def yX0_livesWeek : MethodName := ⟨RX0, "livesWeek", "(II)I"⟩
abbrev cX0_comesBack : ByteArray := prog_2_method_13_code
def yX0_comesBack : MethodName := ⟨RX0, "comesBack", "()V"⟩
abbrev cX0_yellows : ByteArray := prog_2_method_14_code
def yX0_yellows : MethodName := ⟨RX0, "yellows", "()V"⟩
abbrev cX0_washes : ByteArray := prog_2_method_15_code
def yX0_washes : MethodName := ⟨RX0, "washes", "(I)V"⟩
abbrev cX0_dropsYellow : ByteArray := prog_2_method_16_code
def yX0_dropsYellow : MethodName := ⟨RX0, "dropsYellow", "()V"⟩
abbrev cX0_tellsOf : ByteArray := prog_2_method_17_code
def yX0_tellsOf : MethodName := ⟨RX0, "tellsOf", "(I)V"⟩
def RX1 : String := "AlwaysTheTopTwo$Linen"
def TX1 : u_T := fun k => match k with
  | 0 => ("AlwaysTheTopTwo$Linen", "many", "I", false)
  | _ => ("AlwaysTheTopTwo$Linen", "facts", "[I", true)
def tyX1 : Nat → FieldType := fun k => match k with
  | 0 => .int
  | _ => .array .int
abbrev wsX10 : List Cond := u_ws RX1 TX1 2
theorem nmX1 : ∀ a, a < 2 → ∀ b, b < 2 → a ≠ b → (TX1 a).2.1 ≠ (TX1 b).2.1 := by decide +kernel
theorem tyX1_ok : ∀ k, k < 2 → parseFieldDescriptor (TX1 k).2.2.1 = some (tyX1 k) := by decide +kernel
abbrev cX1_init : ByteArray := prog_3_method_1_code
def yX1_init : MethodName := ⟨RX1, "<init>", "()V"⟩
abbrev cX1_becomes : ByteArray := prog_3_method_2_code
def yX1_becomes : MethodName := ⟨RX1, "becomes", "(LAlwaysTheTopTwo$Linen;)V"⟩
abbrev cX1_fact : ByteArray := prog_3_method_3_code
def yX1_fact : MethodName := ⟨RX1, "fact", "(II)I"⟩
abbrev cX1_notes : ByteArray := prog_3_method_4_code
def yX1_notes : MethodName := ⟨RX1, "notes", "(III)V"⟩
abbrev cX1_adds : ByteArray := prog_3_method_5_code
def yX1_adds : MethodName := ⟨RX1, "adds", "(III)I"⟩
abbrev cX1_isCloths : ByteArray := prog_3_method_6_code
def yX1_isCloths : MethodName := ⟨RX1, "isCloths", "(I)Z"⟩
abbrev cX1_left : ByteArray := prog_3_method_7_code
def yX1_left : MethodName := ⟨RX1, "left", "()I"⟩
abbrev cX1_mostWorn : ByteArray := prog_3_method_8_code
def yX1_mostWorn : MethodName := ⟨RX1, "mostWorn", "()I"⟩
abbrev cX1_wornOfAll : ByteArray := prog_3_method_9_code
def yX1_wornOfAll : MethodName := ⟨RX1, "wornOfAll", "()I"⟩
abbrev cX1_isOne : ByteArray := prog_3_method_10_code
def yX1_isOne : MethodName := ⟨RX1, "isOne", "(II)Z"⟩
abbrev cX1_lasts : ByteArray := prog_3_method_11_code
def yX1_lasts : MethodName := ⟨RX1, "lasts", "(I)I"⟩
abbrev cX1_wearsBy : ByteArray := prog_3_method_12_code
def yX1_wearsBy : MethodName := ⟨RX1, "wearsBy", "(II)I"⟩
abbrev cX1_yellowsBy : ByteArray := prog_3_method_13_code
def yX1_yellowsBy : MethodName := ⟨RX1, "yellowsBy", "(II)I"⟩
def RX2 : String := "AlwaysTheTopTwo$Pile"
def TX2 : u_T := fun k => match k with
  | 0 => ("AlwaysTheTopTwo$Pile", "size", "I", false)
  | _ => ("AlwaysTheTopTwo$Pile", "lying", "[I", true)
def tyX2 : Nat → FieldType := fun k => match k with
  | 0 => .int
  | _ => .array .int
abbrev wsX20 : List Cond := u_ws RX2 TX2 2
theorem nmX2 : ∀ a, a < 2 → ∀ b, b < 2 → a ≠ b → (TX2 a).2.1 ≠ (TX2 b).2.1 := by decide +kernel
theorem tyX2_ok : ∀ k, k < 2 → parseFieldDescriptor (TX2 k).2.2.1 = some (tyX2 k) := by decide +kernel
abbrev cX2_init : ByteArray := prog_4_method_1_code
def yX2_init : MethodName := ⟨RX2, "<init>", "()V"⟩
abbrev cX2_becomes : ByteArray := prog_4_method_2_code
def yX2_becomes : MethodName := ⟨RX2, "becomes", "(LAlwaysTheTopTwo$Pile;)V"⟩
abbrev cX2_isPlace : ByteArray := prog_4_method_3_code
def yX2_isPlace : MethodName := ⟨RX2, "isPlace", "(I)Z"⟩
abbrev cX2_at : ByteArray := prog_4_method_4_code
def yX2_at : MethodName := ⟨RX2, "at", "(I)I"⟩
abbrev cX2_placeOf : ByteArray := prog_4_method_5_code
def yX2_placeOf : MethodName := ⟨RX2, "placeOf", "(I)I"⟩
abbrev cX2_insertsAt : ByteArray := prog_4_method_6_code
def yX2_insertsAt : MethodName := ⟨RX2, "insertsAt", "(II)V"⟩
abbrev cX2_removesAt : ByteArray := prog_4_method_7_code
def yX2_removesAt : MethodName := ⟨RX2, "removesAt", "(I)I"⟩
abbrev cX2_turnsUpsideDown : ByteArray := prog_4_method_8_code
def yX2_turnsUpsideDown : MethodName := ⟨RX2, "turnsUpsideDown", "()V"⟩
def RX3 : String := "AlwaysTheTopTwo$Sheets"
def TX3 : u_T := fun k => match k with
  | 0 => ("AlwaysTheTopTwo$Sheets", "sort", "[I", true)
  | 1 => ("AlwaysTheTopTwo$Sheets", "size", "[I", true)
  | _ => ("AlwaysTheTopTwo$Sheets", "numbers", "[I", true)
def tyX3 : Nat → FieldType := fun k => match k with
  | 0 => .array .int
  | 1 => .array .int
  | _ => .array .int
abbrev wsX30 : List Cond := u_ws RX3 TX3 3
theorem nmX3 : ∀ a, a < 3 → ∀ b, b < 3 → a ≠ b → (TX3 a).2.1 ≠ (TX3 b).2.1 := by decide +kernel
theorem tyX3_ok : ∀ k, k < 3 → parseFieldDescriptor (TX3 k).2.2.1 = some (tyX3 k) := by decide +kernel
abbrev cX3_init : ByteArray := prog_5_method_1_code
def yX3_init : MethodName := ⟨RX3, "<init>", "()V"⟩
abbrev cX3_makes : ByteArray := prog_5_method_2_code
def yX3_makes : MethodName := ⟨RX3, "makes", "(III)V"⟩
abbrev cX3_isMissing : ByteArray := prog_5_method_3_code
def yX3_isMissing : MethodName := ⟨RX3, "isMissing", "(I)Z"⟩
abbrev cX3_isPlace : ByteArray := prog_5_method_4_code
def yX3_isPlace : MethodName := ⟨RX3, "isPlace", "(II)Z"⟩
abbrev cX3_holds : ByteArray := prog_5_method_5_code
def yX3_holds : MethodName := ⟨RX3, "holds", "(III)Z"⟩
abbrev cX3_reads : ByteArray := prog_5_method_6_code
def yX3_reads : MethodName := ⟨RX3, "reads", "(II)I"⟩
abbrev cX3_writes : ByteArray := prog_5_method_7_code
def yX3_writes : MethodName := ⟨RX3, "writes", "(III)V"⟩
abbrev cX3_moves : ByteArray := prog_5_method_8_code
def yX3_moves : MethodName := ⟨RX3, "moves", "(IIIII)V"⟩
def RX4 : String := "AlwaysTheTopTwo$Tape"
def TX4 : u_T := fun k => match k with
  | 0 => ("AlwaysTheTopTwo$Tape", "size", "I", false)
  | 1 => ("AlwaysTheTopTwo$Tape", "bytes", "[I", true)
  | 2 => ("AlwaysTheTopTwo$Tape", "place", "I", false)
  | 3 => ("AlwaysTheTopTwo$Tape", "behind", "I", false)
  | 4 => ("AlwaysTheTopTwo$Tape", "token", "I", false)
  | _ => ("AlwaysTheTopTwo$Tape", "number", "I", false)
def tyX4 : Nat → FieldType := fun k => match k with
  | 0 => .int
  | 1 => .array .int
  | 2 => .int
  | 3 => .int
  | 4 => .int
  | _ => .int
abbrev wsX40 : List Cond := u_ws RX4 TX4 6
theorem nmX4 : ∀ a, a < 6 → ∀ b, b < 6 → a ≠ b → (TX4 a).2.1 ≠ (TX4 b).2.1 := by decide +kernel
theorem tyX4_ok : ∀ k, k < 6 → parseFieldDescriptor (TX4 k).2.2.1 = some (tyX4 k) := by decide +kernel
abbrev cX4_init : ByteArray := prog_6_method_1_code
def yX4_init : MethodName := ⟨RX4, "<init>", "()V"⟩
abbrev cX4_adds : ByteArray := prog_6_method_2_code
def yX4_adds : MethodName := ⟨RX4, "adds", "(I)V"⟩
abbrev cX4_readsInto : ByteArray := prog_6_method_3_code
def yX4_readsInto : MethodName := ⟨RX4, "readsInto", "(LAlwaysTheTopTwo$Texts;)I"⟩
abbrev cX4_readsEither : ByteArray := prog_6_method_4_code
def yX4_readsEither : MethodName := ⟨RX4, "readsEither", "(LAlwaysTheTopTwo$Texts;I)Z"⟩
abbrev cX4_readsBoth : ByteArray := prog_6_method_5_code
def yX4_readsBoth : MethodName := ⟨RX4, "readsBoth", "(LAlwaysTheTopTwo$Texts;I)Z"⟩
abbrev cX4_readsNot : ByteArray := prog_6_method_6_code
def yX4_readsNot : MethodName := ⟨RX4, "readsNot", "(LAlwaysTheTopTwo$Texts;I)Z"⟩
abbrev cX4_readsSum : ByteArray := prog_6_method_7_code
def yX4_readsSum : MethodName := ⟨RX4, "readsSum", "(LAlwaysTheTopTwo$Texts;I)Z"⟩
abbrev cX4_readsTerm : ByteArray := prog_6_method_8_code
def yX4_readsTerm : MethodName := ⟨RX4, "readsTerm", "(LAlwaysTheTopTwo$Texts;I)Z"⟩
abbrev cX4_readsOne : ByteArray := prog_6_method_9_code
def yX4_readsOne : MethodName := ⟨RX4, "readsOne", "(LAlwaysTheTopTwo$Texts;I)Z"⟩
abbrev cX4_byteAt : ByteArray := prog_6_method_10_code
def yX4_byteAt : MethodName := ⟨RX4, "byteAt", "(I)I"⟩
abbrev cX4_goesOn : ByteArray := prog_6_method_11_code
def yX4_goesOn : MethodName := ⟨RX4, "goesOn", "()V"⟩
abbrev cX4_readsWord : ByteArray := prog_6_method_12_code
def yX4_readsWord : MethodName := ⟨RX4, "readsWord", "()I"⟩
abbrev cX4_readsNumber : ByteArray := prog_6_method_13_code
def yX4_readsNumber : MethodName := ⟨RX4, "readsNumber", "()I"⟩
abbrev cX4_stands : ByteArray := prog_6_method_14_code
def yX4_stands : MethodName := ⟨RX4, "stands", "(Ljava/lang/String;)Z"⟩
abbrev cX4_isLetter : ByteArray := prog_6_method_15_code
def yX4_isLetter : MethodName := ⟨RX4, "isLetter", "(I)Z"⟩
abbrev cX4_isDigit : ByteArray := prog_6_method_16_code
def yX4_isDigit : MethodName := ⟨RX4, "isDigit", "(I)Z"⟩
abbrev cX4_isSign : ByteArray := prog_6_method_17_code
def yX4_isSign : MethodName := ⟨RX4, "isSign", "(I)Z"⟩
abbrev cX4_wordOf : ByteArray := prog_6_method_18_code
def yX4_wordOf : MethodName := ⟨RX4, "wordOf", "(I)Ljava/lang/String;"⟩
def RX5 : String := "AlwaysTheTopTwo$Texts"
def TX5 : u_T := fun k => match k with
  | 0 => ("AlwaysTheTopTwo$Texts", "many", "I", false)
  | 1 => ("AlwaysTheTopTwo$Texts", "code", "[I", true)
  | 2 => ("AlwaysTheTopTwo$Texts", "ends", "[I", true)
  | 3 => ("AlwaysTheTopTwo$Texts", "named", "[I", true)
  | 4 => ("AlwaysTheTopTwo$Texts", "stack", "[I", true)
  | _ => ("AlwaysTheTopTwo$Texts", "size", "I", false)
def tyX5 : Nat → FieldType := fun k => match k with
  | 0 => .int
  | 1 => .array .int
  | 2 => .array .int
  | 3 => .array .int
  | 4 => .array .int
  | _ => .int
abbrev wsX50 : List Cond := u_ws RX5 TX5 6
theorem nmX5 : ∀ a, a < 6 → ∀ b, b < 6 → a ≠ b → (TX5 a).2.1 ≠ (TX5 b).2.1 := by decide +kernel
theorem tyX5_ok : ∀ k, k < 6 → parseFieldDescriptor (TX5 k).2.2.1 = some (tyX5 k) := by decide +kernel
abbrev cX5_init : ByteArray := prog_7_method_1_code
def yX5_init : MethodName := ⟨RX5, "<init>", "()V"⟩
abbrev cX5_beginsText : ByteArray := prog_7_method_2_code
def yX5_beginsText : MethodName := ⟨RX5, "beginsText", "()V"⟩
abbrev cX5_adds : ByteArray := prog_7_method_3_code
def yX5_adds : MethodName := ⟨RX5, "adds", "(I)V"⟩
abbrev cX5_endsPart : ByteArray := prog_7_method_4_code
def yX5_endsPart : MethodName := ⟨RX5, "endsPart", "(I)V"⟩
abbrev cX5_keepsText : ByteArray := prog_7_method_5_code
def yX5_keepsText : MethodName := ⟨RX5, "keepsText", "()I"⟩
abbrev cX5_tellsLinen : ByteArray := prog_7_method_6_code
def yX5_tellsLinen : MethodName := ⟨RX5, "tellsLinen", "(IIII)V"⟩
abbrev cX5_tellsWeek : ByteArray := prog_7_method_7_code
def yX5_tellsWeek : MethodName := ⟨RX5, "tellsWeek", "(II)V"⟩
abbrev cX5_says : ByteArray := prog_7_method_8_code
def yX5_says : MethodName := ⟨RX5, "says", "(II)I"⟩
abbrev cX5_joins : ByteArray := prog_7_method_9_code
def yX5_joins : MethodName := ⟨RX5, "joins", "(III)I"⟩
def RX6 : String := "AlwaysTheTopTwo"
def TX6 : u_T := fun k => match k with
  | 0 => ("AlwaysTheTopTwo", "texts", "LAlwaysTheTopTwo$Texts;", true)
  | 1 => ("AlwaysTheTopTwo", "tape", "LAlwaysTheTopTwo$Tape;", true)
  | 2 => ("AlwaysTheTopTwo", "now", "LAlwaysTheTopTwo$House;", true)
  | 3 => ("AlwaysTheTopTwo", "kept", "LAlwaysTheTopTwo$House;", true)
  | 4 => ("AlwaysTheTopTwo", "thought", "LAlwaysTheTopTwo$House;", true)
  | 5 => ("AlwaysTheTopTwo", "branch", "LAlwaysTheTopTwo$House;", true)
  | 6 => ("AlwaysTheTopTwo", "sheets", "LAlwaysTheTopTwo$Sheets;", true)
  | _ => ("AlwaysTheTopTwo", "isKept", "Z", false)
def tyX6 : Nat → FieldType := fun k => match k with
  | 0 => .object "AlwaysTheTopTwo$Texts"
  | 1 => .object "AlwaysTheTopTwo$Tape"
  | 2 => .object "AlwaysTheTopTwo$House"
  | 3 => .object "AlwaysTheTopTwo$House"
  | 4 => .object "AlwaysTheTopTwo$House"
  | 5 => .object "AlwaysTheTopTwo$House"
  | 6 => .object "AlwaysTheTopTwo$Sheets"
  | _ => .boolean
abbrev wsX60 : List Cond := u_ws RX6 TX6 8
theorem nmX6 : ∀ a, a < 8 → ∀ b, b < 8 → a ≠ b → (TX6 a).2.1 ≠ (TX6 b).2.1 := by decide +kernel
theorem tyX6_ok : ∀ k, k < 8 → parseFieldDescriptor (TX6 k).2.2.1 = some (tyX6 k) := by decide +kernel
abbrev cX6_init : ByteArray := prog_1_method_1_code
def yX6_init : MethodName := ⟨RX6, "<init>", "()V"⟩
abbrev cX6_count : ByteArray := prog_1_method_2_code
def yX6_count : MethodName := ⟨RX6, "count", "(I)I"⟩
abbrev cX6_set : ByteArray := prog_1_method_3_code
def yX6_set : MethodName := ⟨RX6, "set", "(II)I"⟩
abbrev cX6_feed : ByteArray := prog_1_method_4_code
def yX6_feed : MethodName := ⟨RX6, "feed", "(IIIIII)I"⟩
abbrev cX6_text : ByteArray := prog_1_method_5_code
def yX6_text : MethodName := ⟨RX6, "text", "()I"⟩
abbrev cX6_force : ByteArray := prog_1_method_6_code
def yX6_force : MethodName := ⟨RX6, "force", "(I)I"⟩
abbrev cX6_asks : ByteArray := prog_1_method_7_code
def yX6_asks : MethodName := ⟨RX6, "asks", "(IIII)I"⟩
abbrev cX6_buy : ByteArray := prog_1_method_8_code
def yX6_buy : MethodName := ⟨RX6, "buy", "(II)I"⟩
abbrev cX6_told : ByteArray := prog_1_method_9_code
def yX6_told : MethodName := ⟨RX6, "told", "(II)I"⟩
abbrev cX6_put : ByteArray := prog_1_method_10_code
def yX6_put : MethodName := ⟨RX6, "put", "(III)I"⟩
abbrev cX6_lies : ByteArray := prog_1_method_11_code
def yX6_lies : MethodName := ⟨RX6, "lies", "(I)I"⟩
abbrev cX6_turn : ByteArray := prog_1_method_12_code
def yX6_turn : MethodName := ⟨RX6, "turn", "(I)I"⟩
abbrev cX6_next : ByteArray := prog_1_method_13_code
def yX6_next : MethodName := ⟨RX6, "next", "()I"⟩
abbrev cX6_pileUp : ByteArray := prog_1_method_14_code
def yX6_pileUp : MethodName := ⟨RX6, "pileUp", "(I)I"⟩
abbrev cX6_live : ByteArray := prog_1_method_15_code
def yX6_live : MethodName := ⟨RX6, "live", "()I"⟩
abbrev cX6_run : ByteArray := prog_1_method_16_code
def yX6_run : MethodName := ⟨RX6, "run", "(II)I"⟩
abbrev cX6_then : ByteArray := prog_1_method_17_code
def yX6_then : MethodName := ⟨RX6, "then", "(III)I"⟩
abbrev cX6_cost : ByteArray := prog_1_method_18_code
def yX6_cost : MethodName := ⟨RX6, "cost", "(I)I"⟩
abbrev cX6_rules : ByteArray := prog_1_method_19_code
def yX6_rules : MethodName := ⟨RX6, "rules", "(II)I"⟩
abbrev cX6_which : ByteArray := prog_1_method_20_code
def yX6_which : MethodName := ⟨RX6, "which", "(I)I"⟩
abbrev cX6_when : ByteArray := prog_1_method_21_code
def yX6_when : MethodName := ⟨RX6, "when", "(III)I"⟩
abbrev cX6_enough : ByteArray := prog_1_method_22_code
def yX6_enough : MethodName := ⟨RX6, "enough", "(I)I"⟩
abbrev cX6_feast : ByteArray := prog_1_method_23_code
def yX6_feast : MethodName := ⟨RX6, "feast", "(III)I"⟩
abbrev cX6_laundry : ByteArray := prog_1_method_24_code
def yX6_laundry : MethodName := ⟨RX6, "laundry", "(I)I"⟩
abbrev cX6_judge : ByteArray := prog_1_method_25_code
def yX6_judge : MethodName := ⟨RX6, "judge", "(II)I"⟩
abbrev cX6_rulesOf : ByteArray := prog_1_method_26_code
def yX6_rulesOf : MethodName := ⟨RX6, "rulesOf", "(II)I"⟩
abbrev cX6_kinds : ByteArray := prog_1_method_27_code
def yX6_kinds : MethodName := ⟨RX6, "kinds", "(III)I"⟩
abbrev cX6_wants : ByteArray := prog_1_method_28_code
def yX6_wants : MethodName := ⟨RX6, "wants", "(III)I"⟩
abbrev cX6_weeks : ByteArray := prog_1_method_29_code
def yX6_weeks : MethodName := ⟨RX6, "weeks", "(II)I"⟩
abbrev cX6_laws : ByteArray := prog_1_method_30_code
def yX6_laws : MethodName := ⟨RX6, "laws", "(II)I"⟩
abbrev cX6_film : ByteArray := prog_1_method_31_code
def yX6_film : MethodName := ⟨RX6, "film", "(II)I"⟩
abbrev cX6_drawn : ByteArray := prog_1_method_32_code
def yX6_drawn : MethodName := ⟨RX6, "drawn", "(III)I"⟩
abbrev cX6_odds : ByteArray := prog_1_method_33_code
def yX6_odds : MethodName := ⟨RX6, "odds", "(IIII)J"⟩
abbrev cX6_image : ByteArray := prog_1_method_34_code
def yX6_image : MethodName := ⟨RX6, "image", "()I"⟩
abbrev cX6_back : ByteArray := prog_1_method_35_code
def yX6_back : MethodName := ⟨RX6, "back", "()I"⟩
abbrev cX6_sheet : ByteArray := prog_1_method_36_code
def yX6_sheet : MethodName := ⟨RX6, "sheet", "(III)I"⟩
abbrev cX6_cell : ByteArray := prog_1_method_37_code
def yX6_cell : MethodName := ⟨RX6, "cell", "(III)I"⟩
abbrev cX6_copy : ByteArray := prog_1_method_38_code
def yX6_copy : MethodName := ⟨RX6, "copy", "(IIIII)I"⟩
abbrev cX6_buyBy : ByteArray := prog_1_method_39_code
def yX6_buyBy : MethodName := ⟨RX6, "buyBy", "(IIII)I"⟩
abbrev cX6_taken : ByteArray := prog_1_method_40_code
def yX6_taken : MethodName := ⟨RX6, "taken", "(II)I"⟩
abbrev cX6_isByte : ByteArray := prog_1_method_41_code
def yX6_isByte : MethodName := ⟨RX6, "isByte", "(I)Z"⟩
abbrev cX6_isWeeks : ByteArray := prog_1_method_42_code
def yX6_isWeeks : MethodName := ⟨RX6, "isWeeks", "(I)Z"⟩
abbrev cX6_isSeed : ByteArray := prog_1_method_43_code
def yX6_isSeed : MethodName := ⟨RX6, "isSeed", "(I)Z"⟩
abbrev cX6_isSheet : ByteArray := prog_1_method_44_code
def yX6_isSheet : MethodName := ⟨RX6, "isSheet", "(I)Z"⟩
abbrev cX6_isLinen : ByteArray := prog_1_method_45_code
def yX6_isLinen : MethodName := ⟨RX6, "isLinen", "(I)Z"⟩
abbrev cX6_thinks : ByteArray := prog_1_method_46_code
def yX6_thinks : MethodName := ⟨RX6, "thinks", "(I)V"⟩
abbrev cX6_thinksWith : ByteArray := prog_1_method_47_code
def yX6_thinksWith : MethodName := ⟨RX6, "thinksWith", "(III)V"⟩
abbrev cX6_thinksByRules : ByteArray := prog_1_method_48_code
def yX6_thinksByRules : MethodName := ⟨RX6, "thinksByRules", "(II)V"⟩
abbrev cX6_markOfLasting : ByteArray := prog_1_method_49_code
def yX6_markOfLasting : MethodName := ⟨RX6, "markOfLasting", "(I)I"⟩
abbrev cX6_refusalOfTelling : ByteArray := prog_1_method_50_code
def yX6_refusalOfTelling : MethodName := ⟨RX6, "refusalOfTelling", "(II)I"⟩
abbrev cX6_firstOtherwise : ByteArray := prog_1_method_51_code
def yX6_firstOtherwise : MethodName := ⟨RX6, "firstOtherwise", "(I)I"⟩
abbrev cX6_bitIfTold : ByteArray := prog_1_method_52_code
def yX6_bitIfTold : MethodName := ⟨RX6, "bitIfTold", "(II)I"⟩
abbrev cX6_commonDivisor : ByteArray := prog_1_method_53_code
def yX6_commonDivisor : MethodName := ⟨RX6, "commonDivisor", "(II)I"⟩
def RX7 : String := "AlwaysTheTopTwoModel"
def TX7 : u_T := fun k => match k with
  | 0 => ("AlwaysTheTopTwoModel", "linen", "I", false)
  | 1 => ("AlwaysTheTopTwoModel", "kind", "[I", true)
  | 2 => ("AlwaysTheTopTwoModel", "moreOf", "[I", true)
  | 3 => ("AlwaysTheTopTwoModel", "rows", "[I", true)
  | 4 => ("AlwaysTheTopTwoModel", "pile", "[I", true)
  | 5 => ("AlwaysTheTopTwoModel", "pileMany", "I", false)
  | 6 => ("AlwaysTheTopTwoModel", "ruled", "[I", true)
  | 7 => ("AlwaysTheTopTwoModel", "week", "I", false)
  | 8 => ("AlwaysTheTopTwoModel", "tape", "[I", true)
  | 9 => ("AlwaysTheTopTwoModel", "taped", "I", false)
  | 10 => ("AlwaysTheTopTwoModel", "codes", "[I", true)
  | 11 => ("AlwaysTheTopTwoModel", "starts", "[I", true)
  | 12 => ("AlwaysTheTopTwoModel", "texts", "I", false)
  | 13 => ("AlwaysTheTopTwoModel", "rule", "I", false)
  | 14 => ("AlwaysTheTopTwoModel", "hasImage", "Z", false)
  | 15 => ("AlwaysTheTopTwoModel", "imageLinen", "I", false)
  | 16 => ("AlwaysTheTopTwoModel", "imagePileMany", "I", false)
  | 17 => ("AlwaysTheTopTwoModel", "imageWeek", "I", false)
  | 18 => ("AlwaysTheTopTwoModel", "imageRule", "I", false)
  | 19 => ("AlwaysTheTopTwoModel", "imageRows", "[I", true)
  | 20 => ("AlwaysTheTopTwoModel", "imagePile", "[I", true)
  | 21 => ("AlwaysTheTopTwoModel", "imageRuled", "[I", true)
  | 22 => ("AlwaysTheTopTwoModel", "sheetSort", "[I", true)
  | 23 => ("AlwaysTheTopTwoModel", "sheetSize", "[I", true)
  | 24 => ("AlwaysTheTopTwoModel", "cells", "[I", true)
  | 25 => ("AlwaysTheTopTwoModel", "law", "[I", true)
  | 26 => ("AlwaysTheTopTwoModel", "at", "I", false)
  | 27 => ("AlwaysTheTopTwoModel", "begun", "I", false)
  | 28 => ("AlwaysTheTopTwoModel", "token", "I", false)
  | 29 => ("AlwaysTheTopTwoModel", "value", "I", false)
  | 30 => ("AlwaysTheTopTwoModel", "words", "[I", true)
  | 31 => ("AlwaysTheTopTwoModel", "held", "[I", true)
  | 32 => ("AlwaysTheTopTwoModel", "heldMany", "I", false)
  | 33 => ("AlwaysTheTopTwoModel", "opens", "I", false)
  | 34 => ("AlwaysTheTopTwoModel", "out", "I", false)
  | 35 => ("AlwaysTheTopTwoModel", "stack", "[I", true)
  | 36 => ("AlwaysTheTopTwoModel", "named", "[I", true)
  | 37 => ("AlwaysTheTopTwoModel", "tooFew", "I", false)
  | 38 => ("AlwaysTheTopTwoModel", "outs", "I", false)
  | 39 => ("AlwaysTheTopTwoModel", "firstGone", "I", false)
  | 40 => ("AlwaysTheTopTwoModel", "goneIn", "[I", true)
  | 41 => ("AlwaysTheTopTwoModel", "keptRows", "[I", true)
  | 42 => ("AlwaysTheTopTwoModel", "keptPile", "[I", true)
  | 43 => ("AlwaysTheTopTwoModel", "keptMany", "I", false)
  | 44 => ("AlwaysTheTopTwoModel", "keptWeek", "I", false)
  | 45 => ("AlwaysTheTopTwoModel", "lastRows", "[I", true)
  | _ => ("AlwaysTheTopTwoModel", "hasTurned", "Z", false)
def tyX7 : Nat → FieldType := fun k => match k with
  | 0 => .int
  | 1 => .array .int
  | 2 => .array .int
  | 3 => .array .int
  | 4 => .array .int
  | 5 => .int
  | 6 => .array .int
  | 7 => .int
  | 8 => .array .int
  | 9 => .int
  | 10 => .array .int
  | 11 => .array .int
  | 12 => .int
  | 13 => .int
  | 14 => .boolean
  | 15 => .int
  | 16 => .int
  | 17 => .int
  | 18 => .int
  | 19 => .array .int
  | 20 => .array .int
  | 21 => .array .int
  | 22 => .array .int
  | 23 => .array .int
  | 24 => .array .int
  | 25 => .array .int
  | 26 => .int
  | 27 => .int
  | 28 => .int
  | 29 => .int
  | 30 => .array .int
  | 31 => .array .int
  | 32 => .int
  | 33 => .int
  | 34 => .int
  | 35 => .array .int
  | 36 => .array .int
  | 37 => .int
  | 38 => .int
  | 39 => .int
  | 40 => .array .int
  | 41 => .array .int
  | 42 => .array .int
  | 43 => .int
  | 44 => .int
  | 45 => .array .int
  | _ => .boolean
abbrev wsX70 : List Cond := u_ws RX7 TX7 47
theorem nmX7 : ∀ a, a < 47 → ∀ b, b < 47 → a ≠ b → (TX7 a).2.1 ≠ (TX7 b).2.1 := by decide +kernel
theorem tyX7_ok : ∀ k, k < 47 → parseFieldDescriptor (TX7 k).2.2.1 = some (tyX7 k) := by decide +kernel
abbrev cX7_init : ByteArray := prog_9_method_1_code
def yX7_init : MethodName := ⟨RX7, "<init>", "()V"⟩
abbrev cX7_in : ByteArray := prog_9_method_3_code
def yX7_in : MethodName := ⟨RX7, "in", "(III)Z"⟩
abbrev cX7_within : ByteArray := prog_9_method_4_code
def yX7_within : MethodName := ⟨RX7, "within", "(III)I"⟩
abbrev cX7_isLinen : ByteArray := prog_9_method_5_code
def yX7_isLinen : MethodName := ⟨RX7, "isLinen", "(I)Z"⟩
abbrev cX7_areWeeks : ByteArray := prog_9_method_6_code
def yX7_areWeeks : MethodName := ⟨RX7, "areWeeks", "(I)Z"⟩
abbrev cX7_count : ByteArray := prog_9_method_7_code
def yX7_count : MethodName := ⟨RX7, "count", "(I)I"⟩
abbrev cX7_set : ByteArray := prog_9_method_8_code
def yX7_set : MethodName := ⟨RX7, "set", "(II)I"⟩
abbrev cX7_isByte : ByteArray := prog_9_method_9_code
def yX7_isByte : MethodName := ⟨RX7, "isByte", "(I)Z"⟩
abbrev cX7_feed : ByteArray := prog_9_method_10_code
def yX7_feed : MethodName := ⟨RX7, "feed", "(IIIIII)I"⟩
abbrev cX7_wordFrom : ByteArray := prog_9_method_11_code
def yX7_wordFrom : MethodName := ⟨RX7, "wordFrom", "(II)I"⟩
abbrev cX7_goesNext : ByteArray := prog_9_method_12_code
def yX7_goesNext : MethodName := ⟨RX7, "goesNext", "()V"⟩
abbrev cX7_rank : ByteArray := prog_9_method_13_code
def yX7_rank : MethodName := ⟨RX7, "rank", "(I)I"⟩
abbrev cX7_puts : ByteArray := prog_9_method_14_code
def yX7_puts : MethodName := ⟨RX7, "puts", "(I)V"⟩
abbrev cX7_unwinds : ByteArray := prog_9_method_15_code
def yX7_unwinds : MethodName := ⟨RX7, "unwinds", "(I)V"⟩
abbrev cX7_holds : ByteArray := prog_9_method_16_code
def yX7_holds : MethodName := ⟨RX7, "holds", "(I)V"⟩
abbrev cX7_opensOne : ByteArray := prog_9_method_17_code
def yX7_opensOne : MethodName := ⟨RX7, "opensOne", "(I)Z"⟩
abbrev cX7_between : ByteArray := prog_9_method_18_code
def yX7_between : MethodName := ⟨RX7, "between", "(I)Z"⟩
abbrev cX7_signOf : ByteArray := prog_9_method_19_code
def yX7_signOf : MethodName := ⟨RX7, "signOf", "()I"⟩
abbrev cX7_eRead : ByteArray := prog_9_method_20_code
def yX7_eRead : MethodName := ⟨RX7, "eRead", "()Z"⟩
abbrev cX7_text : ByteArray := prog_9_method_21_code
def yX7_text : MethodName := ⟨RX7, "text", "()I"⟩
abbrev cX7_two : ByteArray := prog_9_method_22_code
def yX7_two : MethodName := ⟨RX7, "two", "(III)I"⟩
abbrev cX7_says : ByteArray := prog_9_method_23_code
def yX7_says : MethodName := ⟨RX7, "says", "(I)I"⟩
abbrev cX7_force : ByteArray := prog_9_method_24_code
def yX7_force : MethodName := ⟨RX7, "force", "(I)I"⟩
abbrev cX7_asksOf : ByteArray := prog_9_method_25_code
def yX7_asksOf : MethodName := ⟨RX7, "asksOf", "(IIIII)I"⟩
abbrev cX7_asks : ByteArray := prog_9_method_26_code
def yX7_asks : MethodName := ⟨RX7, "asks", "(IIII)I"⟩
abbrev cX7_laysAt : ByteArray := prog_9_method_27_code
def yX7_laysAt : MethodName := ⟨RX7, "laysAt", "(II)V"⟩
abbrev cX7_lays : ByteArray := prog_9_method_28_code
def yX7_lays : MethodName := ⟨RX7, "lays", "(I)V"⟩
abbrev cX7_takesFrom : ByteArray := prog_9_method_29_code
def yX7_takesFrom : MethodName := ⟨RX7, "takesFrom", "(I)I"⟩
abbrev cX7_placeBy : ByteArray := prog_9_method_30_code
def yX7_placeBy : MethodName := ⟨RX7, "placeBy", "(I)I"⟩
abbrev cX7_placeOf : ByteArray := prog_9_method_31_code
def yX7_placeOf : MethodName := ⟨RX7, "placeOf", "(I)I"⟩
abbrev cX7_buy : ByteArray := prog_9_method_32_code
def yX7_buy : MethodName := ⟨RX7, "buy", "(II)I"⟩
abbrev cX7_lastsOf : ByteArray := prog_9_method_33_code
def yX7_lastsOf : MethodName := ⟨RX7, "lastsOf", "(I)I"⟩
abbrev cX7_wearsOf : ByteArray := prog_9_method_34_code
def yX7_wearsOf : MethodName := ⟨RX7, "wearsOf", "(I)I"⟩
abbrev cX7_yellowsOf : ByteArray := prog_9_method_35_code
def yX7_yellowsOf : MethodName := ⟨RX7, "yellowsOf", "(I)I"⟩
abbrev cX7_told : ByteArray := prog_9_method_36_code
def yX7_told : MethodName := ⟨RX7, "told", "(II)I"⟩
abbrev cX7_put : ByteArray := prog_9_method_37_code
def yX7_put : MethodName := ⟨RX7, "put", "(III)I"⟩
abbrev cX7_lies : ByteArray := prog_9_method_38_code
def yX7_lies : MethodName := ⟨RX7, "lies", "(I)I"⟩
abbrev cX7_mayTurn : ByteArray := prog_9_method_39_code
def yX7_mayTurn : MethodName := ⟨RX7, "mayTurn", "(I)Z"⟩
abbrev cX7_turns : ByteArray := prog_9_method_40_code
def yX7_turns : MethodName := ⟨RX7, "turns", "(I)V"⟩
abbrev cX7_turn : ByteArray := prog_9_method_41_code
def yX7_turn : MethodName := ⟨RX7, "turn", "(I)I"⟩
abbrev cX7_next : ByteArray := prog_9_method_42_code
def yX7_next : MethodName := ⟨RX7, "next", "()I"⟩
abbrev cX7_areWrong : ByteArray := prog_9_method_43_code
def yX7_areWrong : MethodName := ⟨RX7, "areWrong", "(III)Z"⟩
abbrev cX7_turnsOver : ByteArray := prog_9_method_44_code
def yX7_turnsOver : MethodName := ⟨RX7, "turnsOver", "()V"⟩
abbrev cX7_pileUp : ByteArray := prog_9_method_45_code
def yX7_pileUp : MethodName := ⟨RX7, "pileUp", "(I)I"⟩
abbrev cX7_goesToCloths : ByteArray := prog_9_method_46_code
def yX7_goesToCloths : MethodName := ⟨RX7, "goesToCloths", "(II)V"⟩
abbrev cX7_comesBack : ByteArray := prog_9_method_47_code
def yX7_comesBack : MethodName := ⟨RX7, "comesBack", "()V"⟩
abbrev cX7_takesSo : ByteArray := prog_9_method_48_code
def yX7_takesSo : MethodName := ⟨RX7, "takesSo", "(II)I"⟩
abbrev cX7_lie : ByteArray := prog_9_method_49_code
def yX7_lie : MethodName := ⟨RX7, "lie", "()V"⟩
abbrev cX7_washes : ByteArray := prog_9_method_50_code
def yX7_washes : MethodName := ⟨RX7, "washes", "(II)V"⟩
abbrev cX7_sorts : ByteArray := prog_9_method_51_code
def yX7_sorts : MethodName := ⟨RX7, "sorts", "(I)V"⟩
abbrev cX7_weekBy : ByteArray := prog_9_method_52_code
def yX7_weekBy : MethodName := ⟨RX7, "weekBy", "(III)V"⟩
abbrev cX7_begins : ByteArray := prog_9_method_53_code
def yX7_begins : MethodName := ⟨RX7, "begins", "()V"⟩
abbrev cX7_live : ByteArray := prog_9_method_54_code
def yX7_live : MethodName := ⟨RX7, "live", "()I"⟩
abbrev cX7_keeps : ByteArray := prog_9_method_55_code
def yX7_keeps : MethodName := ⟨RX7, "keeps", "()V"⟩
abbrev cX7_laysBack : ByteArray := prog_9_method_56_code
def yX7_laysBack : MethodName := ⟨RX7, "laysBack", "()V"⟩
abbrev cX7_goes : ByteArray := prog_9_method_57_code
def yX7_goes : MethodName := ⟨RX7, "goes", "(I)V"⟩
abbrev cX7_leftMany : ByteArray := prog_9_method_58_code
def yX7_leftMany : MethodName := ⟨RX7, "leftMany", "()I"⟩
abbrev cX7_mostWorn : ByteArray := prog_9_method_59_code
def yX7_mostWorn : MethodName := ⟨RX7, "mostWorn", "()I"⟩
abbrev cX7_run : ByteArray := prog_9_method_60_code
def yX7_run : MethodName := ⟨RX7, "run", "(II)I"⟩
abbrev cX7_then : ByteArray := prog_9_method_61_code
def yX7_then : MethodName := ⟨RX7, "then", "(III)I"⟩
abbrev cX7_cost : ByteArray := prog_9_method_62_code
def yX7_cost : MethodName := ⟨RX7, "cost", "(I)I"⟩
abbrev cX7_rules : ByteArray := prog_9_method_63_code
def yX7_rules : MethodName := ⟨RX7, "rules", "(II)I"⟩
abbrev cX7_which : ByteArray := prog_9_method_64_code
def yX7_which : MethodName := ⟨RX7, "which", "(I)I"⟩
abbrev cX7_goneOf : ByteArray := prog_9_method_65_code
def yX7_goneOf : MethodName := ⟨RX7, "goneOf", "(III)I"⟩
abbrev cX7_when : ByteArray := prog_9_method_66_code
def yX7_when : MethodName := ⟨RX7, "when", "(III)I"⟩
abbrev cX7_tooFewBy : ByteArray := prog_9_method_67_code
def yX7_tooFewBy : MethodName := ⟨RX7, "tooFewBy", "(III)I"⟩
abbrev cX7_enough : ByteArray := prog_9_method_68_code
def yX7_enough : MethodName := ⟨RX7, "enough", "(I)I"⟩
abbrev cX7_feast : ByteArray := prog_9_method_69_code
def yX7_feast : MethodName := ⟨RX7, "feast", "(III)I"⟩
abbrev cX7_laundry : ByteArray := prog_9_method_70_code
def yX7_laundry : MethodName := ⟨RX7, "laundry", "(I)I"⟩
abbrev cX7_sheetWrong : ByteArray := prog_9_method_71_code
def yX7_sheetWrong : MethodName := ⟨RX7, "sheetWrong", "(I)I"⟩
abbrev cX7_toldWrong : ByteArray := prog_9_method_72_code
def yX7_toldWrong : MethodName := ⟨RX7, "toldWrong", "(II)I"⟩
abbrev cX7_unlike : ByteArray := prog_9_method_73_code
def yX7_unlike : MethodName := ⟨RX7, "unlike", "(II)I"⟩
abbrev cX7_judge : ByteArray := prog_9_method_74_code
def yX7_judge : MethodName := ⟨RX7, "judge", "(II)I"⟩
abbrev cX7_rulesOf : ByteArray := prog_9_method_75_code
def yX7_rulesOf : MethodName := ⟨RX7, "rulesOf", "(II)I"⟩
abbrev cX7_kinds : ByteArray := prog_9_method_76_code
def yX7_kinds : MethodName := ⟨RX7, "kinds", "(III)I"⟩
abbrev cX7_wants : ByteArray := prog_9_method_77_code
def yX7_wants : MethodName := ⟨RX7, "wants", "(III)I"⟩
abbrev cX7_weeks : ByteArray := prog_9_method_78_code
def yX7_weeks : MethodName := ⟨RX7, "weeks", "(II)I"⟩
abbrev cX7_laws : ByteArray := prog_9_method_79_code
def yX7_laws : MethodName := ⟨RX7, "laws", "(II)I"⟩
abbrev cX7_film : ByteArray := prog_9_method_80_code
def yX7_film : MethodName := ⟨RX7, "film", "(II)I"⟩
abbrev cX7_goesBroken : ByteArray := prog_9_method_81_code
def yX7_goesBroken : MethodName := ⟨RX7, "goesBroken", "(III)V"⟩
abbrev cX7_wornAll : ByteArray := prog_9_method_82_code
def yX7_wornAll : MethodName := ⟨RX7, "wornAll", "()I"⟩
abbrev cX7_drawn : ByteArray := prog_9_method_83_code
def yX7_drawn : MethodName := ⟨RX7, "drawn", "(III)I"⟩
abbrev cX7_lowest : ByteArray := prog_9_method_84_code
def yX7_lowest : MethodName := ⟨RX7, "lowest", "(JJI)J"⟩
abbrev cX7_odds : ByteArray := prog_9_method_85_code
def yX7_odds : MethodName := ⟨RX7, "odds", "(IIII)J"⟩
abbrev cX7_image : ByteArray := prog_9_method_86_code
def yX7_image : MethodName := ⟨RX7, "image", "()I"⟩
abbrev cX7_back : ByteArray := prog_9_method_87_code
def yX7_back : MethodName := ⟨RX7, "back", "()I"⟩
abbrev cX7_sheet : ByteArray := prog_9_method_88_code
def yX7_sheet : MethodName := ⟨RX7, "sheet", "(III)I"⟩
abbrev cX7_cell : ByteArray := prog_9_method_89_code
def yX7_cell : MethodName := ⟨RX7, "cell", "(III)I"⟩
abbrev cX7_copy : ByteArray := prog_9_method_90_code
def yX7_copy : MethodName := ⟨RX7, "copy", "(IIIII)I"⟩
abbrev cX7_buyBy : ByteArray := prog_9_method_91_code
def yX7_buyBy : MethodName := ⟨RX7, "buyBy", "(IIII)I"⟩
abbrev cX7_isUnder : ByteArray := prog_9_method_92_code
def yX7_isUnder : MethodName := ⟨RX7, "isUnder", "(II)Z"⟩
abbrev cX7_taken : ByteArray := prog_9_method_93_code
def yX7_taken : MethodName := ⟨RX7, "taken", "(II)I"⟩
def RJ9 : String := "java/lang/Math"
def TJ9 : u_T := fun k => match k with
  | _ => ("", "", "", false)
def tyJ9 : Nat → FieldType := fun k => match k with
  | _ => .int
abbrev wsJ90 : List Cond := u_ws RJ9 TJ9 0
theorem nmJ9 : ∀ a, a < 0 → ∀ b, b < 0 → a ≠ b → (TJ9 a).2.1 ≠ (TJ9 b).2.1 := by decide +kernel
theorem tyJ9_ok : ∀ k, k < 0 → parseFieldDescriptor (TJ9 k).2.2.1 = some (tyJ9 k) := by decide +kernel
abbrev cJ9_max_7cf53 : ByteArray := prog_10_method_65_code
def yJ9_max_7cf53 : MethodName := ⟨RJ9, "max", "(II)I"⟩
abbrev cJ9_min_7cf53 : ByteArray := prog_10_method_69_code
def yJ9_min_7cf53 : MethodName := ⟨RJ9, "min", "(II)I"⟩
def RJ0 : String := "java/lang/String"
def TJ0 : u_T := fun k => match k with
  | _ => ("", "", "", false)
def tyJ0 : Nat → FieldType := fun k => match k with
  | _ => .int
abbrev wsJ00 : List Cond := u_ws RJ0 TJ0 0
theorem nmJ0 : ∀ a, a < 0 → ∀ b, b < 0 → a ≠ b → (TJ0 a).2.1 ≠ (TJ0 b).2.1 := by decide +kernel
theorem tyJ0_ok : ∀ k, k < 0 → parseFieldDescriptor (TJ0 k).2.2.1 = some (tyJ0 k) := by decide +kernel
abbrev cJ0_length_8abf5 : ByteArray := prog_11_method_54_code
def yJ0_length_8abf5 : MethodName := ⟨RJ0, "length", "()I"⟩
abbrev cJ0_charAt_5068e : ByteArray := prog_11_method_56_code
def yJ0_charAt_5068e : MethodName := ⟨RJ0, "charAt", "(I)C"⟩
abbrev cJ0_coder_7d493 : ByteArray := prog_11_method_152_code
def yJ0_coder_7d493 : MethodName := ⟨RJ0, "coder", "()B"⟩
abbrev cJ0_isLatin1_aae02 : ByteArray := prog_11_method_154_code
def yJ0_isLatin1_aae02 : MethodName := ⟨RJ0, "isLatin1", "()Z"⟩
abbrev cJ0_checkIndex_df160 : ByteArray := prog_11_method_155_code
def yJ0_checkIndex_df160 : MethodName := ⟨RJ0, "checkIndex", "(II)V"⟩
def RJ1 : String := "java/lang/StringLatin1"
def TJ1 : u_T := fun k => match k with
  | _ => ("", "", "", false)
def tyJ1 : Nat → FieldType := fun k => match k with
  | _ => .int
abbrev wsJ10 : List Cond := u_ws RJ1 TJ1 0
theorem nmJ1 : ∀ a, a < 0 → ∀ b, b < 0 → a ≠ b → (TJ1 a).2.1 ≠ (TJ1 b).2.1 := by decide +kernel
theorem tyJ1_ok : ∀ k, k < 0 → parseFieldDescriptor (TJ1 k).2.2.1 = some (tyJ1 k) := by decide +kernel
abbrev cJ1_charAt_3b067 : ByteArray := prog_12_method_2_code
def yJ1_charAt_3b067 : MethodName := ⟨RJ1, "charAt", "([BI)C"⟩
def RJ2 : String := "java/lang/StringUTF16"
def TJ2 : u_T := fun k => match k with
  | _ => ("", "", "", false)
def tyJ2 : Nat → FieldType := fun k => match k with
  | _ => .int
abbrev wsJ20 : List Cond := u_ws RJ2 TJ2 0
theorem nmJ2 : ∀ a, a < 0 → ∀ b, b < 0 → a ≠ b → (TJ2 a).2.1 ≠ (TJ2 b).2.1 := by decide +kernel
theorem tyJ2_ok : ∀ k, k < 0 → parseFieldDescriptor (TJ2 k).2.2.1 = some (tyJ2 k) := by decide +kernel
abbrev cJ2_getChar_3b067 : ByteArray := prog_13_method_5_code
def yJ2_getChar_3b067 : MethodName := ⟨RJ2, "getChar", "([BI)C"⟩
abbrev cJ2_length_9d52b : ByteArray := prog_13_method_6_code
def yJ2_length_9d52b : MethodName := ⟨RJ2, "length", "([B)I"⟩
abbrev cJ2_charAt_3b067 : ByteArray := prog_13_method_83_code
def yJ2_charAt_3b067 : MethodName := ⟨RJ2, "charAt", "([BI)C"⟩
abbrev cJ2_checkIndex_2214a : ByteArray := prog_13_method_91_code
def yJ2_checkIndex_2214a : MethodName := ⟨RJ2, "checkIndex", "(I[B)V"⟩
def RJ10 : String := "java/lang/System"
def TJ10 : u_T := fun k => match k with
  | _ => ("", "", "", false)
def tyJ10 : Nat → FieldType := fun k => match k with
  | _ => .int
abbrev wsJ100 : List Cond := u_ws RJ10 TJ10 0
theorem nmJ10 : ∀ a, a < 0 → ∀ b, b < 0 → a ≠ b → (TJ10 a).2.1 ≠ (TJ10 b).2.1 := by decide +kernel
theorem tyJ10_ok : ∀ k, k < 0 → parseFieldDescriptor (TJ10 k).2.2.1 = some (tyJ10 k) := by decide +kernel
def RJ3 : String := "jdk/internal/util/Preconditions"
def TJ3 : u_T := fun k => match k with
  | _ => ("", "", "", false)
def tyJ3 : Nat → FieldType := fun k => match k with
  | _ => .int
abbrev wsJ30 : List Cond := u_ws RJ3 TJ3 0
theorem nmJ3 : ∀ a, a < 0 → ∀ b, b < 0 → a ≠ b → (TJ3 a).2.1 ≠ (TJ3 b).2.1 := by decide +kernel
theorem tyJ3_ok : ∀ k, k < 0 → parseFieldDescriptor (TJ3 k).2.2.1 = some (tyJ3 k) := by decide +kernel
abbrev cJ3_checkIndex_8e157 : ByteArray := prog_15_method_11_code
def yJ3_checkIndex_8e157 : MethodName := ⟨RJ3, "checkIndex", "(IILjava/util/function/BiFunction;)I"⟩
def RL : String := "AlwaysTheTopTwoLaw"
abbrev cL_law : ByteArray := code
def yL_law : MethodName := ⟨RL, "law", "([I)Z"⟩
abbrev vwCl : List vw_C := [(RX0, TX0, 10), (RX1, TX1, 2), (RX2, TX2, 2), (RX3, TX3, 3), (RX4, TX4, 6), (RX5, TX5, 6), (RX6, TX6, 8), (RX7, TX7, 47)]
