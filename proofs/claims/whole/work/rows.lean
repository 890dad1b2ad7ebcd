section
-- ===== PART A: goes FIRST, ahead of the names: the tables' words, and 'selects' of the private methods out of them =====
/-- a private method of a class that the tables say can be made, by its rows of tables_1 -/
def lw_okq (q : MethodName × Nat) : Prop := (q.1.cls ≠ "java/lang/invoke/MethodHandle" ∧ q.1.cls ≠ "java/lang/invoke/VarHandle") ∧ Cond.instantiable q.1.cls q.2 ∈ tables_1 ∧ Cond.privateMethod q.1 ∈ tables_1 ∧ Cond.instanceMethod q.1 ∈ tables_1
theorem lw_p0 : lw_okq (⟨"RareFaults$Syntax", "accepts", "(I)Z"⟩, 3) := ⟨⟨by decide +kernel, by decide +kernel⟩, List.mem_of_getElem? (i := 235) (by decide +kernel), List.mem_of_getElem? (i := 260) (by decide +kernel), List.mem_of_getElem? (i := 261) (by decide +kernel)⟩
theorem lw_p1 : lw_okq (⟨"RareFaults$Syntax", "acceptsNextPart", "()Z"⟩, 3) := ⟨⟨by decide +kernel, by decide +kernel⟩, List.mem_of_getElem? (i := 235) (by decide +kernel), List.mem_of_getElem? (i := 264) (by decide +kernel), List.mem_of_getElem? (i := 265) (by decide +kernel)⟩
theorem lw_p2 : lw_okq (⟨"RareFaults$Syntax", "acceptsDigit", "(I)Z"⟩, 3) := ⟨⟨by decide +kernel, by decide +kernel⟩, List.mem_of_getElem? (i := 235) (by decide +kernel), List.mem_of_getElem? (i := 268) (by decide +kernel), List.mem_of_getElem? (i := 269) (by decide +kernel)⟩
theorem lw_p3 : lw_okq (⟨"RareFaults$Corrections", "addPartOf", "(LRareFaults$Plant;I)V"⟩, 1) := ⟨⟨by decide +kernel, by decide +kernel⟩, List.mem_of_getElem? (i := 165) (by decide +kernel), List.mem_of_getElem? (i := 280) (by decide +kernel), List.mem_of_getElem? (i := 281) (by decide +kernel)⟩
theorem lw_p4 : lw_okq (⟨"RareFaults$Corrections", "correctionOf", "(I)D"⟩, 1) := ⟨⟨by decide +kernel, by decide +kernel⟩, List.mem_of_getElem? (i := 165) (by decide +kernel), List.mem_of_getElem? (i := 284) (by decide +kernel), List.mem_of_getElem? (i := 285) (by decide +kernel)⟩
theorem lw_p5 : lw_okq (⟨"RareFaults", "oddsFor", "(II)D"⟩, 6) := ⟨⟨by decide +kernel, by decide +kernel⟩, List.mem_of_getElem? (i := 21) (by decide +kernel), List.mem_of_getElem? (i := 313) (by decide +kernel), List.mem_of_getElem? (i := 314) (by decide +kernel)⟩
theorem lw_p6 : lw_okq (⟨"RareFaults$Counting", "addPartOf", "(LRareFaults$Plant;I)V"⟩, 1) := ⟨⟨by decide +kernel, by decide +kernel⟩, List.mem_of_getElem? (i := 144) (by decide +kernel), List.mem_of_getElem? (i := 321) (by decide +kernel), List.mem_of_getElem? (i := 322) (by decide +kernel)⟩
theorem lw_p7 : lw_okq (⟨"java/lang/Throwable", "fillInStackTrace", "(I)Ljava/lang/Throwable;"⟩, 6) := ⟨⟨by decide +kernel, by decide +kernel⟩, List.mem_of_getElem? (i := 389) (by decide +kernel), List.mem_of_getElem? (i := 387) (by decide +kernel), List.mem_of_getElem? (i := 388) (by decide +kernel)⟩
theorem lw_p8 : lw_okq (⟨"RareFaults$Likeliest", "setMost", "(III)V"⟩, 1) := ⟨⟨by decide +kernel, by decide +kernel⟩, List.mem_of_getElem? (i := 155) (by decide +kernel), List.mem_of_getElem? (i := 439) (by decide +kernel), List.mem_of_getElem? (i := 440) (by decide +kernel)⟩
theorem lw_p9 : lw_okq (⟨"RareFaults$Likeliest", "mostOfLoads", "(LRareFaults$Plant;II)I"⟩, 1) := ⟨⟨by decide +kernel, by decide +kernel⟩, List.mem_of_getElem? (i := 155) (by decide +kernel), List.mem_of_getElem? (i := 443) (by decide +kernel), List.mem_of_getElem? (i := 444) (by decide +kernel)⟩
theorem lw_p10 : lw_okq (⟨"RareFaults$Likeliest", "waysWith", "(LRareFaults$Plant;III)I"⟩, 1) := ⟨⟨by decide +kernel, by decide +kernel⟩, List.mem_of_getElem? (i := 155) (by decide +kernel), List.mem_of_getElem? (i := 447) (by decide +kernel), List.mem_of_getElem? (i := 448) (by decide +kernel)⟩
theorem lw_p11 : lw_okq (⟨"RareFaults$Likeliest", "getMost", "(II)I"⟩, 1) := ⟨⟨by decide +kernel, by decide +kernel⟩, List.mem_of_getElem? (i := 155) (by decide +kernel), List.mem_of_getElem? (i := 453) (by decide +kernel), List.mem_of_getElem? (i := 454) (by decide +kernel)⟩
theorem lw_p12 : lw_okq (⟨"RareFaults", "hashWithPart", "(JI)J"⟩, 6) := ⟨⟨by decide +kernel, by decide +kernel⟩, List.mem_of_getElem? (i := 21) (by decide +kernel), List.mem_of_getElem? (i := 465) (by decide +kernel), List.mem_of_getElem? (i := 466) (by decide +kernel)⟩
theorem lw_p13 : lw_okq (⟨"RareFaults", "requirePart", "(I)V"⟩, 6) := ⟨⟨by decide +kernel, by decide +kernel⟩, List.mem_of_getElem? (i := 21) (by decide +kernel), List.mem_of_getElem? (i := 473) (by decide +kernel), List.mem_of_getElem? (i := 474) (by decide +kernel)⟩
theorem lw_p14 : lw_okq (⟨"RareFaults$Likeliest", "firstLoad", "(LRareFaults$Plant;II)I"⟩, 1) := ⟨⟨by decide +kernel, by decide +kernel⟩, List.mem_of_getElem? (i := 155) (by decide +kernel), List.mem_of_getElem? (i := 514) (by decide +kernel), List.mem_of_getElem? (i := 515) (by decide +kernel)⟩
theorem lw_p15 : lw_okq (⟨"RareFaults$Plant", "drawLoad", "(I)I"⟩, 6) := ⟨⟨by decide +kernel, by decide +kernel⟩, List.mem_of_getElem? (i := 29) (by decide +kernel), List.mem_of_getElem? (i := 685) (by decide +kernel), List.mem_of_getElem? (i := 686) (by decide +kernel)⟩
def lw_privs_1 : List (MethodName × Nat) := [(⟨"RareFaults$Syntax", "accepts", "(I)Z"⟩, 3), (⟨"RareFaults$Syntax", "acceptsNextPart", "()Z"⟩, 3), (⟨"RareFaults$Syntax", "acceptsDigit", "(I)Z"⟩, 3), (⟨"RareFaults$Corrections", "addPartOf", "(LRareFaults$Plant;I)V"⟩, 1), (⟨"RareFaults$Corrections", "correctionOf", "(I)D"⟩, 1), (⟨"RareFaults", "oddsFor", "(II)D"⟩, 6), (⟨"RareFaults$Counting", "addPartOf", "(LRareFaults$Plant;I)V"⟩, 1), (⟨"java/lang/Throwable", "fillInStackTrace", "(I)Ljava/lang/Throwable;"⟩, 6), (⟨"RareFaults$Likeliest", "setMost", "(III)V"⟩, 1), (⟨"RareFaults$Likeliest", "mostOfLoads", "(LRareFaults$Plant;II)I"⟩, 1), (⟨"RareFaults$Likeliest", "waysWith", "(LRareFaults$Plant;III)I"⟩, 1), (⟨"RareFaults$Likeliest", "getMost", "(II)I"⟩, 1), (⟨"RareFaults", "hashWithPart", "(JI)J"⟩, 6), (⟨"RareFaults", "requirePart", "(I)V"⟩, 6), (⟨"RareFaults$Likeliest", "firstLoad", "(LRareFaults$Plant;II)I"⟩, 1), (⟨"RareFaults$Plant", "drawLoad", "(I)I"⟩, 6)]
theorem lw_r1 : ∀ q ∈ lw_privs_1, lw_okq q := List.forall_mem_cons.mpr ⟨lw_p0, List.forall_mem_cons.mpr ⟨lw_p1, List.forall_mem_cons.mpr ⟨lw_p2, List.forall_mem_cons.mpr ⟨lw_p3, List.forall_mem_cons.mpr ⟨lw_p4, List.forall_mem_cons.mpr ⟨lw_p5, List.forall_mem_cons.mpr ⟨lw_p6, List.forall_mem_cons.mpr ⟨lw_p7, List.forall_mem_cons.mpr ⟨lw_p8, List.forall_mem_cons.mpr ⟨lw_p9, List.forall_mem_cons.mpr ⟨lw_p10, List.forall_mem_cons.mpr ⟨lw_p11, List.forall_mem_cons.mpr ⟨lw_p12, List.forall_mem_cons.mpr ⟨lw_p13, List.forall_mem_cons.mpr ⟨lw_p14, List.forall_mem_cons.mpr ⟨lw_p15, fun _ h => absurd h List.not_mem_nil⟩⟩⟩⟩⟩⟩⟩⟩⟩⟩⟩⟩⟩⟩⟩⟩
theorem lw_p16 : lw_okq (⟨"RareFaultsModel", "save", "()V"⟩, 16) := ⟨⟨by decide +kernel, by decide +kernel⟩, List.mem_of_getElem? (i := 781) (by decide +kernel), List.mem_of_getElem? (i := 850) (by decide +kernel), List.mem_of_getElem? (i := 851) (by decide +kernel)⟩
theorem lw_p17 : lw_okq (⟨"RareFaultsModel", "forgets", "()I"⟩, 16) := ⟨⟨by decide +kernel, by decide +kernel⟩, List.mem_of_getElem? (i := 781) (by decide +kernel), List.mem_of_getElem? (i := 854) (by decide +kernel), List.mem_of_getElem? (i := 855) (by decide +kernel)⟩
theorem lw_p18 : lw_okq (⟨"RareFaultsModel", "layPart", "(I)V"⟩, 16) := ⟨⟨by decide +kernel, by decide +kernel⟩, List.mem_of_getElem? (i := 781) (by decide +kernel), List.mem_of_getElem? (i := 858) (by decide +kernel), List.mem_of_getElem? (i := 859) (by decide +kernel)⟩
theorem lw_p19 : lw_okq (⟨"RareFaultsModel", "weightOf", "(II)I"⟩, 16) := ⟨⟨by decide +kernel, by decide +kernel⟩, List.mem_of_getElem? (i := 781) (by decide +kernel), List.mem_of_getElem? (i := 862) (by decide +kernel), List.mem_of_getElem? (i := 863) (by decide +kernel)⟩
theorem lw_p20 : lw_okq (⟨"RareFaultsModel", "isPart", "(I)Z"⟩, 16) := ⟨⟨by decide +kernel, by decide +kernel⟩, List.mem_of_getElem? (i := 781) (by decide +kernel), List.mem_of_getElem? (i := 870) (by decide +kernel), List.mem_of_getElem? (i := 871) (by decide +kernel)⟩
theorem lw_p21 : lw_okq (⟨"RareFaultsModel", "removeFrom", "(II)V"⟩, 16) := ⟨⟨by decide +kernel, by decide +kernel⟩, List.mem_of_getElem? (i := 781) (by decide +kernel), List.mem_of_getElem? (i := 874) (by decide +kernel), List.mem_of_getElem? (i := 875) (by decide +kernel)⟩
theorem lw_p22 : lw_okq (⟨"RareFaultsModel", "totalOf", "(I)I"⟩, 16) := ⟨⟨by decide +kernel, by decide +kernel⟩, List.mem_of_getElem? (i := 781) (by decide +kernel), List.mem_of_getElem? (i := 882) (by decide +kernel), List.mem_of_getElem? (i := 883) (by decide +kernel)⟩
theorem lw_p23 : lw_okq (⟨"RareFaultsModel", "tiltedOf", "(II)I"⟩, 16) := ⟨⟨by decide +kernel, by decide +kernel⟩, List.mem_of_getElem? (i := 781) (by decide +kernel), List.mem_of_getElem? (i := 886) (by decide +kernel), List.mem_of_getElem? (i := 887) (by decide +kernel)⟩
theorem lw_p24 : lw_okq (⟨"RareFaultsModel", "tiltedTotalOf", "(I)I"⟩, 16) := ⟨⟨by decide +kernel, by decide +kernel⟩, List.mem_of_getElem? (i := 781) (by decide +kernel), List.mem_of_getElem? (i := 898) (by decide +kernel), List.mem_of_getElem? (i := 899) (by decide +kernel)⟩
theorem lw_p25 : lw_okq (⟨"RareFaultsModel", "drawRow", "()I"⟩, 16) := ⟨⟨by decide +kernel, by decide +kernel⟩, List.mem_of_getElem? (i := 781) (by decide +kernel), List.mem_of_getElem? (i := 917) (by decide +kernel), List.mem_of_getElem? (i := 918) (by decide +kernel)⟩
theorem lw_p26 : lw_okq (⟨"RareFaultsModel", "drawLoad", "(I)I"⟩, 16) := ⟨⟨by decide +kernel, by decide +kernel⟩, List.mem_of_getElem? (i := 781) (by decide +kernel), List.mem_of_getElem? (i := 921) (by decide +kernel), List.mem_of_getElem? (i := 922) (by decide +kernel)⟩
theorem lw_p27 : lw_okq (⟨"RareFaultsModel", "corrected", "(DII)D"⟩, 16) := ⟨⟨by decide +kernel, by decide +kernel⟩, List.mem_of_getElem? (i := 781) (by decide +kernel), List.mem_of_getElem? (i := 929) (by decide +kernel), List.mem_of_getElem? (i := 930) (by decide +kernel)⟩
theorem lw_p28 : lw_okq (⟨"RareFaultsModel", "rightUpTo", "()I"⟩, 16) := ⟨⟨by decide +kernel, by decide +kernel⟩, List.mem_of_getElem? (i := 781) (by decide +kernel), List.mem_of_getElem? (i := 949) (by decide +kernel), List.mem_of_getElem? (i := 950) (by decide +kernel)⟩
theorem lw_p29 : lw_okq (⟨"RareFaultsModel", "beginPart", "()V"⟩, 16) := ⟨⟨by decide +kernel, by decide +kernel⟩, List.mem_of_getElem? (i := 781) (by decide +kernel), List.mem_of_getElem? (i := 953) (by decide +kernel), List.mem_of_getElem? (i := 954) (by decide +kernel)⟩
theorem lw_p30 : lw_okq (⟨"RareFaultsModel", "takes", "(I)Z"⟩, 16) := ⟨⟨by decide +kernel, by decide +kernel⟩, List.mem_of_getElem? (i := 781) (by decide +kernel), List.mem_of_getElem? (i := 957) (by decide +kernel), List.mem_of_getElem? (i := 958) (by decide +kernel)⟩
theorem lw_p31 : lw_okq (⟨"RareFaultsModel", "partNow", "(II)I"⟩, 16) := ⟨⟨by decide +kernel, by decide +kernel⟩, List.mem_of_getElem? (i := 781) (by decide +kernel), List.mem_of_getElem? (i := 973) (by decide +kernel), List.mem_of_getElem? (i := 974) (by decide +kernel)⟩
def lw_privs_2 : List (MethodName × Nat) := [(⟨"RareFaultsModel", "save", "()V"⟩, 16), (⟨"RareFaultsModel", "forgets", "()I"⟩, 16), (⟨"RareFaultsModel", "layPart", "(I)V"⟩, 16), (⟨"RareFaultsModel", "weightOf", "(II)I"⟩, 16), (⟨"RareFaultsModel", "isPart", "(I)Z"⟩, 16), (⟨"RareFaultsModel", "removeFrom", "(II)V"⟩, 16), (⟨"RareFaultsModel", "totalOf", "(I)I"⟩, 16), (⟨"RareFaultsModel", "tiltedOf", "(II)I"⟩, 16), (⟨"RareFaultsModel", "tiltedTotalOf", "(I)I"⟩, 16), (⟨"RareFaultsModel", "drawRow", "()I"⟩, 16), (⟨"RareFaultsModel", "drawLoad", "(I)I"⟩, 16), (⟨"RareFaultsModel", "corrected", "(DII)D"⟩, 16), (⟨"RareFaultsModel", "rightUpTo", "()I"⟩, 16), (⟨"RareFaultsModel", "beginPart", "()V"⟩, 16), (⟨"RareFaultsModel", "takes", "(I)Z"⟩, 16), (⟨"RareFaultsModel", "partNow", "(II)I"⟩, 16)]
theorem lw_r2 : ∀ q ∈ lw_privs_2, lw_okq q := List.forall_mem_cons.mpr ⟨lw_p16, List.forall_mem_cons.mpr ⟨lw_p17, List.forall_mem_cons.mpr ⟨lw_p18, List.forall_mem_cons.mpr ⟨lw_p19, List.forall_mem_cons.mpr ⟨lw_p20, List.forall_mem_cons.mpr ⟨lw_p21, List.forall_mem_cons.mpr ⟨lw_p22, List.forall_mem_cons.mpr ⟨lw_p23, List.forall_mem_cons.mpr ⟨lw_p24, List.forall_mem_cons.mpr ⟨lw_p25, List.forall_mem_cons.mpr ⟨lw_p26, List.forall_mem_cons.mpr ⟨lw_p27, List.forall_mem_cons.mpr ⟨lw_p28, List.forall_mem_cons.mpr ⟨lw_p29, List.forall_mem_cons.mpr ⟨lw_p30, List.forall_mem_cons.mpr ⟨lw_p31, fun _ h => absurd h List.not_mem_nil⟩⟩⟩⟩⟩⟩⟩⟩⟩⟩⟩⟩⟩⟩⟩⟩
theorem lw_p32 : lw_okq (⟨"RareFaultsModel", "leastLoad", "(I)I"⟩, 16) := ⟨⟨by decide +kernel, by decide +kernel⟩, List.mem_of_getElem? (i := 781) (by decide +kernel), List.mem_of_getElem? (i := 977) (by decide +kernel), List.mem_of_getElem? (i := 978) (by decide +kernel)⟩
theorem lw_p33 : lw_okq (⟨"RareFaultsModel", "greatestLoad", "(I)I"⟩, 16) := ⟨⟨by decide +kernel, by decide +kernel⟩, List.mem_of_getElem? (i := 781) (by decide +kernel), List.mem_of_getElem? (i := 981) (by decide +kernel), List.mem_of_getElem? (i := 982) (by decide +kernel)⟩
theorem lw_p34 : lw_okq (⟨"RareFaultsModel", "loadSum", "(IZ)I"⟩, 16) := ⟨⟨by decide +kernel, by decide +kernel⟩, List.mem_of_getElem? (i := 781) (by decide +kernel), List.mem_of_getElem? (i := 985) (by decide +kernel), List.mem_of_getElem? (i := 986) (by decide +kernel)⟩
theorem lw_p35 : lw_okq (⟨"RareFaultsModel", "waysNow", "(IZ)J"⟩, 16) := ⟨⟨by decide +kernel, by decide +kernel⟩, List.mem_of_getElem? (i := 781) (by decide +kernel), List.mem_of_getElem? (i := 997) (by decide +kernel), List.mem_of_getElem? (i := 998) (by decide +kernel)⟩
theorem lw_p36 : lw_okq (⟨"RareFaultsModel", "layWays", "(I)V"⟩, 16) := ⟨⟨by decide +kernel, by decide +kernel⟩, List.mem_of_getElem? (i := 781) (by decide +kernel), List.mem_of_getElem? (i := 1001) (by decide +kernel), List.mem_of_getElem? (i := 1002) (by decide +kernel)⟩
theorem lw_p37 : lw_okq (⟨"RareFaultsModel", "addPartWays", "(I)V"⟩, 16) := ⟨⟨by decide +kernel, by decide +kernel⟩, List.mem_of_getElem? (i := 781) (by decide +kernel), List.mem_of_getElem? (i := 1005) (by decide +kernel), List.mem_of_getElem? (i := 1006) (by decide +kernel)⟩
theorem lw_p38 : lw_okq (⟨"RareFaultsModel", "waysFrom", "(I)J"⟩, 16) := ⟨⟨by decide +kernel, by decide +kernel⟩, List.mem_of_getElem? (i := 781) (by decide +kernel), List.mem_of_getElem? (i := 1009) (by decide +kernel), List.mem_of_getElem? (i := 1010) (by decide +kernel)⟩
theorem lw_p39 : lw_okq (⟨"RareFaultsModel", "likeliestLoad", "(I)I"⟩, 16) := ⟨⟨by decide +kernel, by decide +kernel⟩, List.mem_of_getElem? (i := 781) (by decide +kernel), List.mem_of_getElem? (i := 1017) (by decide +kernel), List.mem_of_getElem? (i := 1018) (by decide +kernel)⟩
theorem lw_p40 : lw_okq (⟨"RareFaultsModel", "likeliestWays", "()I"⟩, 16) := ⟨⟨by decide +kernel, by decide +kernel⟩, List.mem_of_getElem? (i := 781) (by decide +kernel), List.mem_of_getElem? (i := 1021) (by decide +kernel), List.mem_of_getElem? (i := 1022) (by decide +kernel)⟩
theorem lw_p41 : lw_okq (⟨"RareFaultsModel", "layMost", "()V"⟩, 16) := ⟨⟨by decide +kernel, by decide +kernel⟩, List.mem_of_getElem? (i := 781) (by decide +kernel), List.mem_of_getElem? (i := 1025) (by decide +kernel), List.mem_of_getElem? (i := 1026) (by decide +kernel)⟩
theorem lw_p42 : lw_okq (⟨"RareFaultsModel", "mostBy", "(III)I"⟩, 16) := ⟨⟨by decide +kernel, by decide +kernel⟩, List.mem_of_getElem? (i := 781) (by decide +kernel), List.mem_of_getElem? (i := 1029) (by decide +kernel), List.mem_of_getElem? (i := 1030) (by decide +kernel)⟩
theorem lw_p43 : lw_okq (⟨"RareFaultsModel", "counted", "(I)I"⟩, 16) := ⟨⟨by decide +kernel, by decide +kernel⟩, List.mem_of_getElem? (i := 781) (by decide +kernel), List.mem_of_getElem? (i := 1037) (by decide +kernel), List.mem_of_getElem? (i := 1038) (by decide +kernel)⟩
theorem lw_p44 : lw_okq (⟨"RareFaultsModel", "endSum", "(Z)I"⟩, 16) := ⟨⟨by decide +kernel, by decide +kernel⟩, List.mem_of_getElem? (i := 781) (by decide +kernel), List.mem_of_getElem? (i := 1041) (by decide +kernel), List.mem_of_getElem? (i := 1042) (by decide +kernel)⟩
theorem lw_p45 : lw_okq (⟨"RareFaultsModel", "measured", "(I)D"⟩, 16) := ⟨⟨by decide +kernel, by decide +kernel⟩, List.mem_of_getElem? (i := 781) (by decide +kernel), List.mem_of_getElem? (i := 1049) (by decide +kernel), List.mem_of_getElem? (i := 1050) (by decide +kernel)⟩
theorem lw_p46 : lw_okq (⟨"RareFaultsModel", "oddsBy", "(II)D"⟩, 16) := ⟨⟨by decide +kernel, by decide +kernel⟩, List.mem_of_getElem? (i := 781) (by decide +kernel), List.mem_of_getElem? (i := 1053) (by decide +kernel), List.mem_of_getElem? (i := 1054) (by decide +kernel)⟩
theorem lw_p47 : lw_okq (⟨"RareFaultsModel", "bySamples", "(D)D"⟩, 16) := ⟨⟨by decide +kernel, by decide +kernel⟩, List.mem_of_getElem? (i := 781) (by decide +kernel), List.mem_of_getElem? (i := 1057) (by decide +kernel), List.mem_of_getElem? (i := 1058) (by decide +kernel)⟩
def lw_privs_3 : List (MethodName × Nat) := [(⟨"RareFaultsModel", "leastLoad", "(I)I"⟩, 16), (⟨"RareFaultsModel", "greatestLoad", "(I)I"⟩, 16), (⟨"RareFaultsModel", "loadSum", "(IZ)I"⟩, 16), (⟨"RareFaultsModel", "waysNow", "(IZ)J"⟩, 16), (⟨"RareFaultsModel", "layWays", "(I)V"⟩, 16), (⟨"RareFaultsModel", "addPartWays", "(I)V"⟩, 16), (⟨"RareFaultsModel", "waysFrom", "(I)J"⟩, 16), (⟨"RareFaultsModel", "likeliestLoad", "(I)I"⟩, 16), (⟨"RareFaultsModel", "likeliestWays", "()I"⟩, 16), (⟨"RareFaultsModel", "layMost", "()V"⟩, 16), (⟨"RareFaultsModel", "mostBy", "(III)I"⟩, 16), (⟨"RareFaultsModel", "counted", "(I)I"⟩, 16), (⟨"RareFaultsModel", "endSum", "(Z)I"⟩, 16), (⟨"RareFaultsModel", "measured", "(I)D"⟩, 16), (⟨"RareFaultsModel", "oddsBy", "(II)D"⟩, 16), (⟨"RareFaultsModel", "bySamples", "(D)D"⟩, 16)]
theorem lw_r3 : ∀ q ∈ lw_privs_3, lw_okq q := List.forall_mem_cons.mpr ⟨lw_p32, List.forall_mem_cons.mpr ⟨lw_p33, List.forall_mem_cons.mpr ⟨lw_p34, List.forall_mem_cons.mpr ⟨lw_p35, List.forall_mem_cons.mpr ⟨lw_p36, List.forall_mem_cons.mpr ⟨lw_p37, List.forall_mem_cons.mpr ⟨lw_p38, List.forall_mem_cons.mpr ⟨lw_p39, List.forall_mem_cons.mpr ⟨lw_p40, List.forall_mem_cons.mpr ⟨lw_p41, List.forall_mem_cons.mpr ⟨lw_p42, List.forall_mem_cons.mpr ⟨lw_p43, List.forall_mem_cons.mpr ⟨lw_p44, List.forall_mem_cons.mpr ⟨lw_p45, List.forall_mem_cons.mpr ⟨lw_p46, List.forall_mem_cons.mpr ⟨lw_p47, fun _ h => absurd h List.not_mem_nil⟩⟩⟩⟩⟩⟩⟩⟩⟩⟩⟩⟩⟩⟩⟩⟩
theorem lw_p48 : lw_okq (⟨"RareFaultsModel", "effective", "()D"⟩, 16) := ⟨⟨by decide +kernel, by decide +kernel⟩, List.mem_of_getElem? (i := 781) (by decide +kernel), List.mem_of_getElem? (i := 1061) (by decide +kernel), List.mem_of_getElem? (i := 1062) (by decide +kernel)⟩
theorem lw_p49 : lw_okq (⟨"RareFaultsModel", "limitNow", "(I)I"⟩, 16) := ⟨⟨by decide +kernel, by decide +kernel⟩, List.mem_of_getElem? (i := 781) (by decide +kernel), List.mem_of_getElem? (i := 1073) (by decide +kernel), List.mem_of_getElem? (i := 1074) (by decide +kernel)⟩
theorem lw_p50 : lw_okq (⟨"RareFaultsModel", "greatestNow", "(Z)D"⟩, 16) := ⟨⟨by decide +kernel, by decide +kernel⟩, List.mem_of_getElem? (i := 781) (by decide +kernel), List.mem_of_getElem? (i := 1082) (by decide +kernel), List.mem_of_getElem? (i := 1083) (by decide +kernel)⟩
theorem lw_p51 : lw_okq (⟨"RareFaultsModel", "correctionOf", "(Z)D"⟩, 16) := ⟨⟨by decide +kernel, by decide +kernel⟩, List.mem_of_getElem? (i := 781) (by decide +kernel), List.mem_of_getElem? (i := 1086) (by decide +kernel), List.mem_of_getElem? (i := 1087) (by decide +kernel)⟩
theorem lw_p52 : lw_okq (⟨"RareFaultsModel", "goesOn", "()Z"⟩, 16) := ⟨⟨by decide +kernel, by decide +kernel⟩, List.mem_of_getElem? (i := 781) (by decide +kernel), List.mem_of_getElem? (i := 1090) (by decide +kernel), List.mem_of_getElem? (i := 1091) (by decide +kernel)⟩
theorem lw_p53 : lw_okq (⟨"RareFaultsModel", "slightestNow", "()I"⟩, 16) := ⟨⟨by decide +kernel, by decide +kernel⟩, List.mem_of_getElem? (i := 781) (by decide +kernel), List.mem_of_getElem? (i := 1098) (by decide +kernel), List.mem_of_getElem? (i := 1099) (by decide +kernel)⟩
theorem lw_p54 : lw_okq (⟨"RareFaultsModel", "mix", "(J)V"⟩, 16) := ⟨⟨by decide +kernel, by decide +kernel⟩, List.mem_of_getElem? (i := 781) (by decide +kernel), List.mem_of_getElem? (i := 1107) (by decide +kernel), List.mem_of_getElem? (i := 1108) (by decide +kernel)⟩
theorem lw_p55 : lw_okq (⟨"RareFaultsModel", "mixPart", "(I)V"⟩, 16) := ⟨⟨by decide +kernel, by decide +kernel⟩, List.mem_of_getElem? (i := 781) (by decide +kernel), List.mem_of_getElem? (i := 1112) (by decide +kernel), List.mem_of_getElem? (i := 1113) (by decide +kernel)⟩
def lw_privs_4 : List (MethodName × Nat) := [(⟨"RareFaultsModel", "effective", "()D"⟩, 16), (⟨"RareFaultsModel", "limitNow", "(I)I"⟩, 16), (⟨"RareFaultsModel", "greatestNow", "(Z)D"⟩, 16), (⟨"RareFaultsModel", "correctionOf", "(Z)D"⟩, 16), (⟨"RareFaultsModel", "goesOn", "()Z"⟩, 16), (⟨"RareFaultsModel", "slightestNow", "()I"⟩, 16), (⟨"RareFaultsModel", "mix", "(J)V"⟩, 16), (⟨"RareFaultsModel", "mixPart", "(I)V"⟩, 16)]
theorem lw_r4 : ∀ q ∈ lw_privs_4, lw_okq q := List.forall_mem_cons.mpr ⟨lw_p48, List.forall_mem_cons.mpr ⟨lw_p49, List.forall_mem_cons.mpr ⟨lw_p50, List.forall_mem_cons.mpr ⟨lw_p51, List.forall_mem_cons.mpr ⟨lw_p52, List.forall_mem_cons.mpr ⟨lw_p53, List.forall_mem_cons.mpr ⟨lw_p54, List.forall_mem_cons.mpr ⟨lw_p55, fun _ h => absurd h List.not_mem_nil⟩⟩⟩⟩⟩⟩⟩⟩
def lw_privs : List (MethodName × Nat) := lw_privs_1 ++ (lw_privs_2 ++ (lw_privs_3 ++ (lw_privs_4)))
def lw_tbl : List Cond := k2_sels lw_privs ++ tables_1
theorem lw_privs_ok : ∀ q ∈ lw_privs, lw_okq q := by
  show ∀ q ∈ lw_privs_1 ++ (lw_privs_2 ++ (lw_privs_3 ++ (lw_privs_4))), lw_okq q
  exact List.forall_mem_append.mpr ⟨lw_r1, List.forall_mem_append.mpr ⟨lw_r2, List.forall_mem_append.mpr ⟨lw_r3, lw_r4⟩⟩⟩
/-- the streams that the claim lets the run draw from -/
abbrev lw_cs : List Choice := [Jvm.Choice.named "NaN.bits"]
theorem lw_bits : nanBits ∈ lw_cs := by first | decide | exact List.mem_cons_self | simp [lw_cs, nanBits]
end
section
/-! ===== BEGIN words of one list among another's, by their places ===== -/
theorem goodIn_r {big : List Cond} (ws : List Cond) (ps : List Nat) (hp : ws = ps.filterMap (fun i => big[i]?)) (h : ws.all goodWord = true) : GoodIn big ws := by
  intro w hw
  have h1 := List.all_eq_true.mp h w hw
  rw [hp] at hw
  obtain ⟨i, -, hi⟩ := List.mem_filterMap.mp hw
  have hm : w ∈ big := by first | exact List.mem_of_getElem? hi | exact List.getElem?_mem hi
  exact ⟨hm, good_of_word h1⟩
theorem goodIn_app {big a b : List Cond} (ha : GoodIn big a) (hb : GoodIn big b) : GoodIn big (a ++ b) := fun w h => (List.mem_append.mp h).elim (ha w) (hb w)
theorem goodIn_ca {big a b : List Cond} {c : Cond} (ha : GoodIn big (c :: a)) (hb : GoodIn big b) : GoodIn big (c :: (a ++ b)) := fun w h => (List.mem_cons.mp h).elim (fun e => ha w (List.mem_cons.mpr (Or.inl e))) (fun h => (List.mem_append.mp h).elim (fun h => ha w (List.mem_cons.mpr (Or.inr h))) (hb w))
theorem goodIn_sub {big ws : List Cond} (hm : ∀ w ∈ ws, w ∈ big) (h : ws.all goodWord = true) : GoodIn big ws := fun w hw => ⟨hm w hw, good_of_word (List.all_eq_true.mp h w hw)⟩
/-! ===== END ===== -/

/-! ===== BEGIN exceptions that leave a method, and their catching by the caller (launches without stack traces) ===== -/
section VXA
/-! The laws vx_back, vx_callV, vx_callS, vx_callSW, vx_throw0, vx_throwS follow proofs of the library, with one case more: JvmDerived/Free/Laws.lean (Back.of_free), Shelf42/LK1.lean (callV, callS), Shelf/KitTraced.lean (throwNew0V, throwNewS). -/
/-- where a method has thrown q: the class by its name, the cell, what was written, the world -/
def vx_T (XC : String → State → State → Prop) (st : State) (q : Addr) (t : State) (mc ms : Nat) (free : Addr → Prop) : Prop :=
  ∃ (E : String) (ce : Cell) (L : List Loc), XC E st t ∧ t.heap[q]? = some ce ∧ ce.vm = .none ∧ st.vm.findClass E = some ce.cls ∧ st.WarmedH t.vm ∧ st.sameButNew ({ t with vm := st.vm } : State) L mc ms ∧ ∀ z ∈ L, free z.base
def vx_Q (Qc : Array Value → State → Outcome → State → Prop) (XC : String → State → State → Prop) (mc ms : Nat) (free : Addr → Prop) : Array Value → State → Outcome → State → Prop := fun a st o t =>
  (Qc a st o t ∧ ∃ L, FrameEnd st o t L mc ms ∧ ∀ q ∈ L, free q.base) ∨ ∃ q, o = .threw q ∧ vx_T XC st q t mc ms free
/-- a callee that returns or throws -/
def vx_Met (l : Launch) (y : MethodName) (ws : List Cond) (rm : Room) (Pc : Array Value → State → Prop) (Qc : Array Value → State → Outcome → State → Prop) (XC : String → State → State → Prop) (mc ms : Nat) (free : Addr → Prop) : Prop :=
  MetFree l y (headSpec ws rm) Pc (fun _ _ _ _ _ => True) (vx_Q Qc XC mc ms free)
def vx_Post (XC : String → State → State → Prop) (mc ms : Nat) (free : Addr → Prop) : Pt → Array Value → Addr → Pt → Prop := fun A a q B =>
  ∃ (g : JFrame) (mk : MethodId) (t : State) (L : List Loc) (E : String) (ce : Cell), B.U.heap = t.heap ∧ B.U.vm = t.vm ∧ XC E (A.U.calling g mk a) t ∧ t.heap[q]? = some ce ∧ ce.vm = .none ∧ A.U.vm.findClass E = some ce.cls ∧ B.locs = A.locs ++ L ∧ (∀ z ∈ L, free z.base) ∧ B.cells = A.cells + mc ∧ B.slots = A.slots + ms
def vx_Back (l : Launch) (R : Room) (p : Program) (e : Env) (below : List Frame) (s : State) (sargs : Array Value) (y : MethodName) (len W9 : Nat)
    (Pre : Pt → Array Value → Prop) (Post : Pt → Array Value → Option Value → Pt → Prop) (PostX : Pt → Array Value → Addr → Pt → Prop) : Prop :=
  ∀ (m : MethodId) (meth : Method) (c : Code) (A : Pt) (g : JFrame) (ig : Instr) (mk : MethodId) (a : Array Value),
    Stand p l e R s m sargs below meth c A.U A.locs A.cells A.slots → g.method = m → g.locals.size = c.maxLocals → decode c.code g.pc = .ok (ig, len) →
    2 * g.monitorRoom + (g.stack.map fun v => v.category).sum ≤ W9 → A.U.methodNamed? y = some mk → Pre A a →
    (∃ (v : Option Value) (B : Pt), Stand p l e R s m sargs below meth c B.U B.locs B.cells B.slots ∧ Post A a v B ∧
      Steps p.tables e below (doInvoke e (A.U.setTop g) [] mk a).1 (B.U.setTop { g with pc := g.pc + len, stack := v.toList ++ g.stack })) ∨
    (∃ (q : Addr) (B : Pt), Stand p l e R s m sargs below meth c B.U B.locs B.cells B.slots ∧ PostX A a q B ∧
      Steps p.tables e below (doInvoke e (A.U.setTop g) [] mk a).1 ((B.U.setTop g).pushFrame (.throwing q)))
section Payer
variable {l : Launch} {R : Room} {p : Program} {e : Env} {below : List Frame} {s : State} {sargs : Array Value} {y : MethodName} {len W9 : Nat}
theorem vx_back {ws : List Cond} {rm : Room} {Pc : Array Value → State → Prop} {Qc : Array Value → State → Outcome → State → Prop} {XC : String → State → State → Prop} {mc ms : Nat} {free : Addr → Prop} {bytes : ByteArray} {maxL : Nat} {ret : Option FieldType}
    (hM : vx_Met l y ws rm Pc Qc XC mc ms free) (hblind : FrameBlind Pc) (hrc : rm.cells = mc) (hrs : rm.slots = ms)
    (hframes : rm.frames + 1 ≤ R.frames) (hlocals : W9 + (maxL + 11) + rm.locals ≤ R.locals)
    (hws : ∀ w ∈ ws, ∀ a' U, s.WarmedH U.vm → w.before a' U = true) (hcode : Cond.code y bytes maxL ret ∈ ws) (hinit : ∀ a' U, s.WarmedH U.vm → (Cond.initialized y.cls).before a' U = true) :
    vx_Back l R p e below s sargs y len W9 (PreOf R mc ms Pc) (PostOf Qc mc ms free) (vx_Post XC mc ms free) := by
  intro m meth c A g ig mk a X hg hsize hdg hW hn hp
  have h1 : (headSpec ws rm).pre.before a A.U = true := atoms_intro fun w hw => hws w hw _ _ X.warmed
  have h2 : (Cond.code y bytes maxL ret).before a A.U = true := hws _ hcode _ _ X.warmed
  have h3 : (Cond.initialized y.cls).before a A.U = true := hinit _ _ X.warmed
  have h4 : A.cells + (headSpec ws rm).room.cells ≤ R.cells := by rw [show (headSpec ws rm).room.cells = mc from hrc]; exact hp.1
  have h5 : A.slots + (headSpec ws rm).room.slots ≤ R.slots := by rw [show (headSpec ws rm).room.slots = ms from hrs]; exact hp.2.1
  have hPc : Pc a (A.U.calling g mk a) := hblind _ _ _ _ hp.2.2
  obtain ⟨U, Ls, c0, s0⟩ := A
  dsimp only [Pt.U, Pt.locs, Pt.cells, Pt.slots] at h1 h2 h3 h4 h5 X hn hPc ⊢
  obtain ⟨methY, cY, hmY, hcY, -, hlY, -, -, -, -⟩ := Cond.code_spec hn h2
  obtain ⟨kY, hkY, -⟩ := className_of_methodNamed hn
  have hinitY : kY.init = .initialized := Cond.initialized_spec (findClass_of_methodNamed hn) hkY h3
  have h : At U g.method c below := by rw [hg]; exact X.here
  have hlocals9 : W9 + (maxL + 11) + (headSpec ws rm).room.locals ≤ R.locals := hlocals
  have happ : (headSpec ws rm).appliesLoose y e.platform (U.calling g mk a) = true :=
    Spec.appliesLoose_calling (g := g) h hdg hn hkY hinitY
      (X.room_calling (g := g) (R' := (headSpec ws rm).room) hsize hmY hcY hframes (by rw [hlY]; omega) h4 h5) h1
  obtain ⟨mid, hmid⟩ := h.above
  have hfr : (U.setTop g).frames = (.java g :: mid) ++ below := by rw [State.frames_setTop' g h.top, hmid]; rfl
  obtain ⟨o, s₂, hsteps, -, hend, hq⟩ := Steps.callFree hM p X.admits X.cas X.clock (acts := []) hfr happ hPc trivial
  have hq' : vx_Q Qc XC mc ms free a (U.calling g mk a) o s₂ := hq
  rw [State.frames_setTop' g h.top] at hend
  obtain ⟨g₀, hg0⟩ := Option.isSome_iff_exists.mp h.top
  obtain ⟨r, hr⟩ := State.topJava?_eq_some.mp hg0
  have hr' : (({ U with heap := s₂.heap, slotsUsed := s₂.slotsUsed } : State).setVm s₂.vm).frames = .java g₀ :: r := hr
  rcases hq' with ⟨hqc, L, hfe, hL⟩ | ⟨q, rfl, E, ce, L, hx, hce, hcv, hcl, hW₂, hsm, hL⟩
  · obtain ⟨⟨v, rfl⟩, hW₂, e2, q2, q3, q4, q5, q6⟩ := id hfe
    have e3 : s₂ = ({ (U.calling g mk a).setFrames s₂.frames with heap := s₂.heap, slotsUsed := s₂.slotsUsed } : State).setVm s₂.vm := by
      have : s₂ = ({ s₂ with vm := (U.calling g mk a).vm } : State).setVm s₂.vm := rfl
      rw [e2] at this
      exact this
    obtain ⟨c₂, i₂, len₂, hc₂, hd₂, hf₂⟩ := hend
    have hW' : U.WarmedH s₂.vm := hW₂
    have hcc : c₂ = c := by
      have h1 : s₂.code? g.method = U.code? g.method := by
        rw [State.code?_eq, State.code?_eq, hW'.alike.method?]
      exact Option.some.inj (hc₂.symm.trans (h1.trans h.code))
    subst hcc
    have hlen : len₂ = len := by rw [hdg] at hd₂; cases hd₂; rfl
    subst hlen
    have hs₂ : s₂ = (({ U with heap := s₂.heap, slotsUsed := s₂.slotsUsed } : State).setVm s₂.vm).setTop { g with pc := g.pc + len₂, stack := v.toList ++ g.stack } := by
      refine e3.trans ?_
      rw [hf₂, State.calling_eq h.top, State.setFrames_setFrames, State.setTop_of_frames _ hr', hr]
      rfl
    have hsame : U.sameButNew ({ U with heap := s₂.heap, slotsUsed := s₂.slotsUsed } : State) L mc ms := by
      refine ⟨?_, q2, q3, q4, q5, q6⟩
      obtain ⟨t, ht, -⟩ := State.frames_cons hr
      show ({ U with heap := s₂.heap, slotsUsed := s₂.slotsUsed } : State) = { U.setFrames U.frames with heap := s₂.heap, slotsUsed := s₂.slotsUsed }
      rw [State.setFrames_self ht]
    subst hg
    refine Or.inl ⟨v, ⟨(({ U with heap := s₂.heap, slotsUsed := s₂.slotsUsed } : State).setVm s₂.vm), Ls ++ L, c0 + mc, s0 + ms⟩,
      ⟨X.admits, X.cas, X.clock, X.frames, X.room, X.hears, X.method, X.code, (X.here.setHeapUsed s₂.heap s₂.slotsUsed).setVm hW'.alike, X.tail, State.WarmedH.trans X.warmed hW', X.limits, X.bytes, X.same.trans (hsame.setVm s.vm)⟩,
      ⟨g, mk, s₂, L, rfl, rfl, hqc, rfl, hL, rfl, rfl⟩, ?_⟩
    show Steps p.tables e below _ ((({ U with heap := s₂.heap, slotsUsed := s₂.slotsUsed } : State).setVm s₂.vm).setTop { g with pc := g.pc + len₂, stack := v.toList ++ g.stack })
    rw [← hs₂]
    exact hsteps
  · obtain ⟨e2, q2, q3, q4, q5, q6⟩ := id hsm
    have e3 : s₂ = ({ (U.calling g mk a).setFrames s₂.frames with heap := s₂.heap, slotsUsed := s₂.slotsUsed } : State).setVm s₂.vm := by
      have : s₂ = ({ s₂ with vm := (U.calling g mk a).vm } : State).setVm s₂.vm := rfl
      rw [e2] at this
      exact this
    have hf₂ : s₂.frames = .throwing q :: .java g :: U.frames.tail := hend
    have hW' : U.WarmedH s₂.vm := hW₂
    have hs₂ : s₂ = ((({ U with heap := s₂.heap, slotsUsed := s₂.slotsUsed } : State).setVm s₂.vm).setTop g).pushFrame (.throwing q) := by
      refine e3.trans ?_
      rw [hf₂, State.calling_eq h.top, State.setFrames_setFrames, State.pushFrame, State.frames_setTop _ hr', State.setTop_of_frames _ hr', State.setFrames_setFrames, hr]
      rfl
    have hsame : U.sameButNew ({ U with heap := s₂.heap, slotsUsed := s₂.slotsUsed } : State) L mc ms := by
      refine ⟨?_, q2, q3, q4, q5, q6⟩
      obtain ⟨t, ht, -⟩ := State.frames_cons hr
      show ({ U with heap := s₂.heap, slotsUsed := s₂.slotsUsed } : State) = { U.setFrames U.frames with heap := s₂.heap, slotsUsed := s₂.slotsUsed }
      rw [State.setFrames_self ht]
    subst hg
    refine Or.inr ⟨q, ⟨(({ U with heap := s₂.heap, slotsUsed := s₂.slotsUsed } : State).setVm s₂.vm), Ls ++ L, c0 + mc, s0 + ms⟩,
      ⟨X.admits, X.cas, X.clock, X.frames, X.room, X.hears, X.method, X.code, (X.here.setHeapUsed s₂.heap s₂.slotsUsed).setVm hW'.alike, X.tail, State.WarmedH.trans X.warmed hW', X.limits, X.bytes, X.same.trans (hsame.setVm s.vm)⟩,
      ⟨g, mk, s₂, L, E, ce, rfl, rfl, hx, hce, hcv, hcl, rfl, hL, rfl, rfl⟩, ?_⟩
    show Steps p.tables e below _ (((({ U with heap := s₂.heap, slotsUsed := s₂.slotsUsed } : State).setVm s₂.vm).setTop g).pushFrame (.throwing q))
    rw [← hs₂]
    exact hsteps
end Payer
section Calls
variable {p : Program} {l : Launch} {e : Env} {R : Room} {s : State} {m : MethodId} {args : Array Value} {below : List Frame} {meth : Method} {c : Code} {T : State} {locs : List Loc} {cells slots : Nat}
theorem vx_callV (X : Stand p l e R s m args below meth c T locs cells slots) (hexec : p.tables.exec = Jvm.exec) {own C : String} {index : Nat} {y : MethodName} {bytes : ByteArray} {maxL : Nat} {ret : Option FieldType}
    (hown : s.vm.findClass own = some m.cls) (hlink : (Cond.methodLink own index y).before args s = true) (hinst : (Cond.instanceMethod y).before args s = true) (hsel : (Cond.selects C y y).before args s = true)
    (hcode : (Cond.code y bytes maxL ret).before args s = true) (hy : y.cls ≠ "java/lang/invoke/MethodHandle" ∧ y.cls ≠ "java/lang/invoke/VarHandle")
    {W9 : Nat} {Pre : Pt → Array Value → Prop} {Post : Pt → Array Value → Option Value → Pt → Prop} {PostX : Pt → Array Value → Addr → Pt → Prop} (hK : vx_Back l R p e below s args y 3 W9 Pre Post PostX)
    {b : Addr} {cellB : Cell} (hcell : T.heap[b]? = some cellB) (hobj : cellB.vm.isStatics = false) (hcls : s.vm.findClass C = some cellB.cls)
    {g : JFrame} (hg : g.method = m) (hsize : g.locals.size = c.maxLocals) {argsL rest : List Value} (hlen : ∀ sig, parseMethodDescriptor y.desc = some sig → argsL.length = sig.parameters.length)
    (hstack : g.stack = argsL.reverse ++ .ref b :: rest) (hW : 2 * g.monitorRoom + (rest.map fun v => v.category).sum ≤ W9) (hdg : decode c.code g.pc = .ok (.invokevirtual index, 3))
    (hpre : ∀ vm₁, s.WarmedH vm₁ → Pre ⟨T.setVm vm₁, locs, cells, slots⟩ (Value.ref b :: argsL).toArray) :
    (∃ (v : Option Value) (vm₁ : Vm) (B : Pt), s.WarmedH vm₁ ∧ Stand p l e R s m args below meth c B.U B.locs B.cells B.slots ∧ Post ⟨T.setVm vm₁, locs, cells, slots⟩ (Value.ref b :: argsL).toArray v B ∧
      ∀ target, Steps p.tables e below (B.U.setTop { g with pc := g.pc + 3, stack := v.toList ++ rest }) target → Steps p.tables e below (T.setTop g) target) ∨
    (∃ (q : Addr) (vm₁ : Vm) (B : Pt), s.WarmedH vm₁ ∧ Stand p l e R s m args below meth c B.U B.locs B.cells B.slots ∧ PostX ⟨T.setVm vm₁, locs, cells, slots⟩ (Value.ref b :: argsL).toArray q B ∧
      Steps p.tables e below (T.setTop g) ((B.U.setTop { g with stack := rest }).pushFrame (.throwing q))) := by
  obtain ⟨mk, methM, hnamed, hmethM, hstM, habM⟩ := Cond.instanceMethod_spec hinst
  obtain ⟨methM', cM, hmethM', -, -, -, -, -, -, hsigM⟩ := Cond.code_spec hnamed hcode
  cases hmethM.symm.trans hmethM'
  obtain ⟨c2, r2, m2, q1, q2, q3, q4, kP, hkP, hkPi⟩ := Cond.selects_spec hsel
  cases hcls.symm.trans q1
  cases (State.methodFound?_of_named hnamed hy).symm.trans q2
  cases hnamed.symm.trans q3
  have hselP : selectMethod e.platform s.vm cellB.cls mk = .method mk := by rw [Launch.admits_selectMethod X.admits]; exact q4
  obtain ⟨vm₁, X₁, hstep₁⟩ := X.invokevirtual hexec hown hlink hnamed hmethM hstM hkP hkPi hy (a := b) (cell := cellB) hcell
    (fun z h => by rw [h] at hobj; cases hobj) hselP hmethM habM hkP hkPi (g := g) hg (argsL := argsL) (rest := rest) (hlen _ hsigM) hstack hdg
  rcases hK m meth c ⟨T.setVm vm₁, locs, cells, slots⟩ { g with stack := rest } (.invokevirtual index) mk (Value.ref b :: argsL).toArray X₁ hg hsize hdg hW (X₁.named hnamed) (hpre vm₁ X₁.warmed) with ⟨v, B, X', hpost, hsteps⟩ | ⟨q, B, X', hpost, hsteps⟩
  · exact Or.inl ⟨v, vm₁, B, X₁.warmed, X', hpost, fun target h => hstep₁ _ fun acts => by rw [doInvoke_state]; exact hsteps.trans h⟩
  · exact Or.inr ⟨q, vm₁, B, X₁.warmed, X', hpost, hstep₁ _ fun acts => by rw [doInvoke_state]; exact hsteps⟩
theorem vx_callS (X : Stand p l e R s m args below meth c T locs cells slots) (hexec : p.tables.exec = Jvm.exec) {own : String} {index : Nat} {y : MethodName} {bytes : ByteArray} {maxL : Nat} {ret : Option FieldType}
    (hown : s.vm.findClass own = some m.cls) (hlink : (Cond.methodLink own index y).before args s = true) (hstat : (Cond.static y).before args s = true) (hinit : (Cond.initialized y.cls).before args s = true)
    (hcode : (Cond.code y bytes maxL ret).before args s = true) (hy : y.cls ≠ "java/lang/invoke/MethodHandle" ∧ y.cls ≠ "java/lang/invoke/VarHandle")
    {W9 : Nat} {Pre : Pt → Array Value → Prop} {Post : Pt → Array Value → Option Value → Pt → Prop} {PostX : Pt → Array Value → Addr → Pt → Prop} (hK : vx_Back l R p e below s args y 3 W9 Pre Post PostX)
    {g : JFrame} (hg : g.method = m) (hsize : g.locals.size = c.maxLocals) {argsL rest : List Value} (hlen : ∀ sig, parseMethodDescriptor y.desc = some sig → argsL.length = sig.parameters.length)
    (hstack : g.stack = argsL.reverse ++ rest) (hW : 2 * g.monitorRoom + (rest.map fun v => v.category).sum ≤ W9) (hdg : decode c.code g.pc = .ok (.invokestatic index, 3))
    (hpre : ∀ vm₁, s.WarmedH vm₁ → Pre ⟨T.setVm vm₁, locs, cells, slots⟩ argsL.toArray) :
    (∃ (v : Option Value) (vm₁ : Vm) (B : Pt), s.WarmedH vm₁ ∧ Stand p l e R s m args below meth c B.U B.locs B.cells B.slots ∧ Post ⟨T.setVm vm₁, locs, cells, slots⟩ argsL.toArray v B ∧
      ∀ target, Steps p.tables e below (B.U.setTop { g with pc := g.pc + 3, stack := v.toList ++ rest }) target → Steps p.tables e below (T.setTop g) target) ∨
    (∃ (q : Addr) (vm₁ : Vm) (B : Pt), s.WarmedH vm₁ ∧ Stand p l e R s m args below meth c B.U B.locs B.cells B.slots ∧ PostX ⟨T.setVm vm₁, locs, cells, slots⟩ argsL.toArray q B ∧
      Steps p.tables e below (T.setTop g) ((B.U.setTop { g with stack := rest }).pushFrame (.throwing q))) := by
  obtain ⟨mk, hnamed⟩ := Cond.code_named hcode
  obtain ⟨methM, cM, hmethM, -, -, -, -, -, -, hsigM⟩ := Cond.code_spec hnamed hcode
  have hstatic : methM.isStatic = true := Cond.static_spec hnamed hmethM hstat
  obtain ⟨kP, hkP, -⟩ := className_of_methodNamed hnamed
  have hinitP : kP.init = .initialized := Cond.initialized_spec (findClass_of_methodNamed hnamed) hkP hinit
  obtain ⟨vm₁, X₁, hstep₁⟩ := X.invokestatic hexec hown hlink hnamed hmethM hstatic hkP hinitP hy (g := g) hg (argsL := argsL) (rest := rest) (hlen _ hsigM) hstack hdg
  rcases hK m meth c ⟨T.setVm vm₁, locs, cells, slots⟩ { g with stack := rest } (.invokestatic index) mk argsL.toArray X₁ hg hsize hdg hW (X₁.named hnamed) (hpre vm₁ X₁.warmed) with ⟨v, B, X', hpost, hsteps⟩ | ⟨q, B, X', hpost, hsteps⟩
  · exact Or.inl ⟨v, vm₁, B, X₁.warmed, X', hpost, fun target h => hstep₁ _ fun acts => by rw [doInvoke_state]; exact hsteps.trans h⟩
  · exact Or.inr ⟨q, vm₁, B, X₁.warmed, X', hpost, hstep₁ _ fun acts => by rw [doInvoke_state]; exact hsteps⟩
end Calls
theorem vx_cls {s : State} {T : State} {vm₁ : Vm} {E : String} {k : ClassId} (hW : s.WarmedH vm₁) (h : (T.setVm vm₁).vm.findClass E = some k) : s.vm.findClass E = some k := by
  have h1 : vm₁.findClass E = some k := h
  rw [hW.alike.findClass] at h1
  exact h1
/-- the method's frame g, with q thrown over it -/
def vx_W (p : Program) (l : Launch) (e : Env) (R : Room) (s : State) (m : MethodId) (args : Array Value) (below : List Frame) (meth : Method) (c : Code) (H : Heap) (locs : List Loc) (cells slots : Nat) (Q : State → Prop) (g : JFrame) (q : Addr) : Prop :=
  ∀ T : State, T.heap = H → Stand p l e R s m args below meth c T locs cells slots → ∃ t, Steps p.tables e below ((T.setTop g).pushFrame (.throwing q)) t ∧ Q t
def vx_Run (p : Program) (l : Launch) (e : Env) (R : Room) (s : State) (m : MethodId) (args : Array Value) (below : List Frame) (meth : Method) (c : Code) (H : Heap) (locs : List Loc) (cells slots mc ms : Nat) (g : JFrame) (rest : List Value) (Qa : State → Outcome → State → Prop) (XC : String → State → State → Prop) (free : Addr → Prop) : Prop :=
  ∀ T : State, T.heap = H → Stand p l e R s m args below meth c T locs cells slots →
    (∃ (v : Option Value) (st₀ t T' : State) (L : List Loc), st₀.heap = H ∧ Stand p l e R s m args below meth c T' (locs ++ L) (cells + mc) (slots + ms) ∧ (∀ q ∈ L, free q.base) ∧ T'.heap = t.heap ∧ T'.vm = t.vm ∧ Qa st₀ (.returned v) t ∧
      Goes p e below T g T' { g with pc := g.pc + 3, stack := v.toList ++ rest }) ∨
    (∃ (q : Addr) (st₀ t T' : State) (L : List Loc) (E : String) (ce : Cell), st₀.heap = H ∧ Stand p l e R s m args below meth c T' (locs ++ L) (cells + mc) (slots + ms) ∧ (∀ z ∈ L, free z.base) ∧ T'.heap = t.heap ∧ T'.vm = t.vm ∧ XC E st₀ t ∧ t.heap[q]? = some ce ∧ ce.vm = .none ∧ s.vm.findClass E = some ce.cls ∧
      Steps p.tables e below (T.setTop g) ((T'.setTop { g with stack := rest }).pushFrame (.throwing q)))
def vx_X {S : Type} (px : S → Prop) (B : String → S → State → Prop) (A : Nat → Prop) : String → State → State → Prop := fun E st t => ∃ u : S, px u ∧ B E u t ∧ va_F A st t
section Runs
variable {p : Program} {l : Launch} {e : Env} {R : Room} {s : State} {m : MethodId} {args : Array Value} {below : List Frame} {meth : Method} {c : Code} {H : Heap} {locs : List Loc} {cells slots : Nat}
variable {y : MethodName} {bytes cc : ByteArray} {maxL nL mc ms n index : Nat} {ret : Option FieldType} {ws : List Cond} {rm : Room} {Pc : Array Value → State → Prop} {Qc : Array Value → State → Outcome → State → Prop} {XC : String → State → State → Prop} {free : Addr → Prop} {Ts : List Cond} {own C : String} {b : Addr} {As rest : List Value} {g : JFrame}
theorem vx_callBack (cb : CallB R s args own index y bytes maxL ret ws rm mc ms n) (hM : vx_Met l y ws rm Pc Qc XC mc ms free) (hbl : FrameBlind Pc) : vx_Back l R p e below s args y 3 8 (PreOf R mc ms Pc) (PostOf Qc mc ms free) (vx_Post XC mc ms free) := by
  obtain ⟨hrc, hrs, hfr, hlo, hws, hcw, -, hini, -⟩ := cb
  exact vx_back (bytes := bytes) (maxL := maxL) (ret := ret) hM hbl hrc hrs hfr hlo hws hcw (fun a' U hW => word_at hW (Or.inl (by first | rfl | simp [Cond.onTables, Cond.keeps, Cond.steady])) hini)
theorem vx_runV (S : CallFix p m c cc nL s args Ts own) (hM : vx_Met l y ws rm Pc Qc XC mc ms free) (cw : CallW R s args own C index y bytes maxL ret ws rm mc ms n) (hp : PreV s H C b Pc As)
    (hg : g.method = m) (hn : As.length = n) (hsize : g.locals.size = nL) (hstack : g.stack = As.reverse ++ .ref b :: rest) (hW : 2 * g.monitorRoom + (rest.map fun v => v.category).sum ≤ 8) (hdg : decode cc g.pc = .ok (.invokevirtual index, 3)) (hf : cells + mc ≤ R.cells ∧ slots + ms ≤ R.slots) :
    vx_Run p l e R s m args below meth c H locs cells slots mc ms g rest (Qc (Value.ref b :: As).toArray) XC free := by
  have hK : vx_Back l R p e below s args y 3 8 (PreOf R mc ms Pc) (PostOf Qc mc ms free) (vx_Post XC mc ms free) := vx_callBack cw.1 hM hp.1
  obtain ⟨⟨-, -, -, -, -, -, hcode, -, hy, hlen, hl⟩, hin, hse⟩ := cw
  obtain ⟨hx, hb, hml, ho, -⟩ := S
  obtain ⟨-, ⟨cellB, hcB, hoB, hclB⟩, hPc⟩ := hp
  intro T hT X
  rcases vx_callV X hx (C := C) (bytes := bytes) (maxL := maxL) (ret := ret) ho hl hin hse hcode hy hK (by rw [hT]; exact hcB) hoB hclB hg (hsize.trans hml.symm) (argsL := As) (rest := rest) (fun sig h => hn.trans (hlen sig h)) hstack hW (by rw [hb]; exact hdg)
    (fun vm₁ hW₁ => ⟨hf.1, hf.2, hPc (T.setVm vm₁) hT hW₁⟩) with ⟨v, vm₁, ⟨U', l2, c2, s2⟩, hW₁, X', ⟨g', mk, t, L, e1, e2, hq, h1, hL, h2, h3⟩, st⟩ | ⟨q, vm₁, ⟨U', l2, c2, s2⟩, hW₁, X', ⟨g', mk, t, L, E, ce, e1, e2, hq, hce, hcv, hcl, h1, hL, h2, h3⟩, st⟩
  · dsimp only [Pt.U, Pt.locs, Pt.cells, Pt.slots] at X' e1 e2 h1 h2 h3 st
    subst h1; subst h2; subst h3
    exact Or.inl ⟨v, (T.setVm vm₁).calling g' mk (Value.ref b :: As).toArray, t, U', L, hT, X', hL, e1, e2, hq, st⟩
  · dsimp only [Pt.U, Pt.locs, Pt.cells, Pt.slots] at X' e1 e2 h1 h2 h3 st hcl
    subst h1; subst h2; subst h3
    exact Or.inr ⟨q, (T.setVm vm₁).calling g' mk (Value.ref b :: As).toArray, t, U', L, E, ce, hT, X', hL, e1, e2, hq, hce, hcv, vx_cls hW₁ hcl, st⟩
theorem vx_runS (S : CallFix p m c cc nL s args Ts own) (hM : vx_Met l y ws rm Pc Qc XC mc ms free) (cw : CallB R s args own index y bytes maxL ret ws rm mc ms n ∧ (Cond.static y).before args s = true) (hp : PreS s H Pc As)
    (hg : g.method = m) (hn : As.length = n) (hsize : g.locals.size = nL) (hstack : g.stack = As.reverse ++ rest) (hW : 2 * g.monitorRoom + (rest.map fun v => v.category).sum ≤ 8) (hdg : decode cc g.pc = .ok (.invokestatic index, 3)) (hf : cells + mc ≤ R.cells ∧ slots + ms ≤ R.slots) :
    vx_Run p l e R s m args below meth c H locs cells slots mc ms g rest (Qc As.toArray) XC free := by
  have hK : vx_Back l R p e below s args y 3 8 (PreOf R mc ms Pc) (PostOf Qc mc ms free) (vx_Post XC mc ms free) := vx_callBack cw.1 hM hp.1
  obtain ⟨⟨-, -, -, -, -, -, hcode, hini, hy, hlen, hl⟩, hstt⟩ := cw
  obtain ⟨hx, hb, hml, ho, -⟩ := S
  intro T hT X
  rcases vx_callS X hx (bytes := bytes) (maxL := maxL) (ret := ret) ho hl hstt hini hcode hy hK hg (hsize.trans hml.symm) (argsL := As) (rest := rest) (fun sig h => hn.trans (hlen sig h)) hstack hW (by rw [hb]; exact hdg)
    (fun vm₁ hW₁ => ⟨hf.1, hf.2, hp.2 (T.setVm vm₁) hT hW₁⟩) with ⟨v, vm₁, ⟨U', l2, c2, s2⟩, hW₁, X', ⟨g', mk, t, L, e1, e2, hq, h1, hL, h2, h3⟩, st⟩ | ⟨q, vm₁, ⟨U', l2, c2, s2⟩, hW₁, X', ⟨g', mk, t, L, E, ce, e1, e2, hq, hce, hcv, hcl, h1, hL, h2, h3⟩, st⟩
  · dsimp only [Pt.U, Pt.locs, Pt.cells, Pt.slots] at X' e1 e2 h1 h2 h3 st
    subst h1; subst h2; subst h3
    exact Or.inl ⟨v, (T.setVm vm₁).calling g' mk As.toArray, t, U', L, hT, X', hL, e1, e2, hq, st⟩
  · dsimp only [Pt.U, Pt.locs, Pt.cells, Pt.slots] at X' e1 e2 h1 h2 h3 st hcl
    subst h1; subst h2; subst h3
    exact Or.inr ⟨q, (T.setVm vm₁).calling g' mk As.toArray, t, U', L, E, ce, hT, X', hL, e1, e2, hq, hce, hcv, vx_cls hW₁ hcl, st⟩
end Runs
section Rows
variable {p : Program} {l : Launch} {e : Env} {R : Room} {s : State} {m : MethodId} {args : Array Value} {below : List Frame} {meth : Method} {c : Code} {H : Heap} {locs : List Loc} {cells slots : Nat} {Q : State → Prop}
variable {mc ms : Nat} {free : Addr → Prop} {A0 A1 : Nat → Prop} {H0 : Heap} {a : Array Value} {pc : Nat} {ls : Array Slot} {st0 rest : List Value}
theorem vx_keep {st₀ t T' : State} {L : List Loc} (h0 : st₀.heap = H) (e1 : T'.heap = t.heap) (hS : va_S A0 H0 H locs) (hA : ∀ q, q < H.size → A1 q → A0 q) (hf : ∀ q, free q → A0 q) (hL : ∀ q ∈ L, free q.base) (hF : va_F A1 st₀ t) :
    H.size ≤ T'.heap.size ∧ (∀ q : Nat, q < H.size → ¬ A1 q → T'.heap[q]? = H[q]?) ∧ va_S A0 H0 T'.heap (locs ++ L) := by
  obtain ⟨hz, hk⟩ := hF
  rw [h0] at hz hk
  exact ⟨by rw [e1]; exact hz, fun q h1 h2 => by rw [e1]; exact hk q h1 h2,
    ⟨Nat.le_trans hS.1 (by rw [e1]; exact hz), fun q h1 h2 => by rw [e1, hk q (Nat.lt_of_lt_of_le h1 hS.1) (fun z => h2 (hA q (Nat.lt_of_lt_of_le h1 hS.1) z))]; exact hS.2.1 q h1 h2, fun q hq => by
      rcases List.mem_append.mp hq with h | h
      · exact hS.2.2 q h
      · exact hf _ (hL q h)⟩⟩
theorem vx_calli {S SX : Type} {post : Int32 → S → Prop} {px : SX → Prop} {B : S → State → Prop} {BX : String → SX → State → Prop} {AX : Nat → Prop} (hr : vx_Run p l e R s m args below meth c H locs cells slots mc ms (F0 m pc ls st0) rest (va_Qi post B A1 a) (vx_X px BX AX) free) (hS : va_S A0 H0 H locs) (hA : ∀ q, q < H.size → A1 q → A0 q) (hf : ∀ q, free q → A0 q) (hAX : ∀ q, q < H.size → AX q → A0 q)
    (kx : ∀ (E : String) (ce : Cell) (q9 : Addr) (u : SX) (t : State) (H1 : Heap) (locs1 : List Loc), t.heap = H1 → s.vm.Alike t.vm → px u → BX E u t → H.size ≤ H1.size → (∀ q : Nat, q < H.size → ¬ AX q → H1[q]? = H[q]?) → va_S A0 H0 H1 locs1 → H1[q9]? = some ce → ce.vm = .none → s.vm.findClass E = some ce.cls → vx_W p l e R s m args below meth c H1 locs1 (cells + mc) (slots + ms) Q (F0 m pc ls rest) q9)
    (kk : ∀ (r : Int32) (u : S) (t : State) (H1 : Heap) (locs1 : List Loc), t.heap = H1 → s.vm.Alike t.vm → post r u → B u t → H.size ≤ H1.size → (∀ q : Nat, q < H.size → ¬ A1 q → H1[q]? = H[q]?) → va_S A0 H0 H1 locs1 → W p l e R s m args below meth c H1 locs1 (cells + mc) (slots + ms) Q (F0 m (pc + 3) ls (.int r :: rest))) : W p l e R s m args below meth c H locs cells slots Q (F0 m pc ls st0) := by
  intro T hT X
  rcases hr T hT X with ⟨v, st₀, t, T', L, h0, X', hL, e1, e2, ⟨⟨r, u, hv, hp, hb⟩, hF⟩, st⟩ | ⟨q, st₀, t, T', L, E, ce, h0, X', hL, e1, e2, ⟨u, hp, hb, hF⟩, hce, hcv, hcl, st⟩
  · cases hv
    obtain ⟨k1, k2, k3⟩ := vx_keep h0 e1 hS hA hf hL hF
    obtain ⟨t2, a1, b1⟩ := kk r u t T'.heap (locs ++ L) e1.symm (by rw [← e2]; exact X'.warmed.alike) hp hb k1 k2 k3 T' rfl X'
    exact ⟨t2, st t2 a1, b1⟩
  · obtain ⟨k1, k2, k3⟩ := vx_keep h0 e1 hS hAX hf hL hF
    obtain ⟨t2, a1, b1⟩ := kx E ce q u t T'.heap (locs ++ L) e1.symm (by rw [← e2]; exact X'.warmed.alike) hp hb k1 k2 k3 (by rw [e1]; exact hce) hcv hcl T' rfl X'
    exact ⟨t2, st.trans a1, b1⟩
theorem vx_calll {S SX : Type} {post : Int64 → S → Prop} {px : SX → Prop} {B : S → State → Prop} {BX : String → SX → State → Prop} {AX : Nat → Prop} (hr : vx_Run p l e R s m args below meth c H locs cells slots mc ms (F0 m pc ls st0) rest (va_Ql post B A1 a) (vx_X px BX AX) free) (hS : va_S A0 H0 H locs) (hA : ∀ q, q < H.size → A1 q → A0 q) (hf : ∀ q, free q → A0 q) (hAX : ∀ q, q < H.size → AX q → A0 q)
    (kx : ∀ (E : String) (ce : Cell) (q9 : Addr) (u : SX) (t : State) (H1 : Heap) (locs1 : List Loc), t.heap = H1 → s.vm.Alike t.vm → px u → BX E u t → H.size ≤ H1.size → (∀ q : Nat, q < H.size → ¬ AX q → H1[q]? = H[q]?) → va_S A0 H0 H1 locs1 → H1[q9]? = some ce → ce.vm = .none → s.vm.findClass E = some ce.cls → vx_W p l e R s m args below meth c H1 locs1 (cells + mc) (slots + ms) Q (F0 m pc ls rest) q9)
    (kk : ∀ (r : Int64) (u : S) (t : State) (H1 : Heap) (locs1 : List Loc), t.heap = H1 → s.vm.Alike t.vm → post r u → B u t → H.size ≤ H1.size → (∀ q : Nat, q < H.size → ¬ A1 q → H1[q]? = H[q]?) → va_S A0 H0 H1 locs1 → W p l e R s m args below meth c H1 locs1 (cells + mc) (slots + ms) Q (F0 m (pc + 3) ls (.long r :: rest))) : W p l e R s m args below meth c H locs cells slots Q (F0 m pc ls st0) := by
  intro T hT X
  rcases hr T hT X with ⟨v, st₀, t, T', L, h0, X', hL, e1, e2, ⟨⟨r, u, hv, hp, hb⟩, hF⟩, st⟩ | ⟨q, st₀, t, T', L, E, ce, h0, X', hL, e1, e2, ⟨u, hp, hb, hF⟩, hce, hcv, hcl, st⟩
  · cases hv
    obtain ⟨k1, k2, k3⟩ := vx_keep h0 e1 hS hA hf hL hF
    obtain ⟨t2, a1, b1⟩ := kk r u t T'.heap (locs ++ L) e1.symm (by rw [← e2]; exact X'.warmed.alike) hp hb k1 k2 k3 T' rfl X'
    exact ⟨t2, st t2 a1, b1⟩
  · obtain ⟨k1, k2, k3⟩ := vx_keep h0 e1 hS hAX hf hL hF
    obtain ⟨t2, a1, b1⟩ := kx E ce q u t T'.heap (locs ++ L) e1.symm (by rw [← e2]; exact X'.warmed.alike) hp hb k1 k2 k3 (by rw [e1]; exact hce) hcv hcl T' rfl X'
    exact ⟨t2, st.trans a1, b1⟩
theorem vx_callf {S SX : Type} {post : UInt32 → S → Prop} {px : SX → Prop} {B : S → State → Prop} {BX : String → SX → State → Prop} {AX : Nat → Prop} (hr : vx_Run p l e R s m args below meth c H locs cells slots mc ms (F0 m pc ls st0) rest (va_Qf post B A1 a) (vx_X px BX AX) free) (hS : va_S A0 H0 H locs) (hA : ∀ q, q < H.size → A1 q → A0 q) (hf : ∀ q, free q → A0 q) (hAX : ∀ q, q < H.size → AX q → A0 q)
    (kx : ∀ (E : String) (ce : Cell) (q9 : Addr) (u : SX) (t : State) (H1 : Heap) (locs1 : List Loc), t.heap = H1 → s.vm.Alike t.vm → px u → BX E u t → H.size ≤ H1.size → (∀ q : Nat, q < H.size → ¬ AX q → H1[q]? = H[q]?) → va_S A0 H0 H1 locs1 → H1[q9]? = some ce → ce.vm = .none → s.vm.findClass E = some ce.cls → vx_W p l e R s m args below meth c H1 locs1 (cells + mc) (slots + ms) Q (F0 m pc ls rest) q9)
    (kk : ∀ (r : UInt32) (u : S) (t : State) (H1 : Heap) (locs1 : List Loc), t.heap = H1 → s.vm.Alike t.vm → post r u → B u t → H.size ≤ H1.size → (∀ q : Nat, q < H.size → ¬ A1 q → H1[q]? = H[q]?) → va_S A0 H0 H1 locs1 → W p l e R s m args below meth c H1 locs1 (cells + mc) (slots + ms) Q (F0 m (pc + 3) ls (.float r :: rest))) : W p l e R s m args below meth c H locs cells slots Q (F0 m pc ls st0) := by
  intro T hT X
  rcases hr T hT X with ⟨v, st₀, t, T', L, h0, X', hL, e1, e2, ⟨⟨r, u, hv, hp, hb⟩, hF⟩, st⟩ | ⟨q, st₀, t, T', L, E, ce, h0, X', hL, e1, e2, ⟨u, hp, hb, hF⟩, hce, hcv, hcl, st⟩
  · cases hv
    obtain ⟨k1, k2, k3⟩ := vx_keep h0 e1 hS hA hf hL hF
    obtain ⟨t2, a1, b1⟩ := kk r u t T'.heap (locs ++ L) e1.symm (by rw [← e2]; exact X'.warmed.alike) hp hb k1 k2 k3 T' rfl X'
    exact ⟨t2, st t2 a1, b1⟩
  · obtain ⟨k1, k2, k3⟩ := vx_keep h0 e1 hS hAX hf hL hF
    obtain ⟨t2, a1, b1⟩ := kx E ce q u t T'.heap (locs ++ L) e1.symm (by rw [← e2]; exact X'.warmed.alike) hp hb k1 k2 k3 (by rw [e1]; exact hce) hcv hcl T' rfl X'
    exact ⟨t2, st.trans a1, b1⟩
theorem vx_calld {S SX : Type} {post : UInt64 → S → Prop} {px : SX → Prop} {B : S → State → Prop} {BX : String → SX → State → Prop} {AX : Nat → Prop} (hr : vx_Run p l e R s m args below meth c H locs cells slots mc ms (F0 m pc ls st0) rest (va_Qd post B A1 a) (vx_X px BX AX) free) (hS : va_S A0 H0 H locs) (hA : ∀ q, q < H.size → A1 q → A0 q) (hf : ∀ q, free q → A0 q) (hAX : ∀ q, q < H.size → AX q → A0 q)
    (kx : ∀ (E : String) (ce : Cell) (q9 : Addr) (u : SX) (t : State) (H1 : Heap) (locs1 : List Loc), t.heap = H1 → s.vm.Alike t.vm → px u → BX E u t → H.size ≤ H1.size → (∀ q : Nat, q < H.size → ¬ AX q → H1[q]? = H[q]?) → va_S A0 H0 H1 locs1 → H1[q9]? = some ce → ce.vm = .none → s.vm.findClass E = some ce.cls → vx_W p l e R s m args below meth c H1 locs1 (cells + mc) (slots + ms) Q (F0 m pc ls rest) q9)
    (kk : ∀ (r : UInt64) (u : S) (t : State) (H1 : Heap) (locs1 : List Loc), t.heap = H1 → s.vm.Alike t.vm → post r u → B u t → H.size ≤ H1.size → (∀ q : Nat, q < H.size → ¬ A1 q → H1[q]? = H[q]?) → va_S A0 H0 H1 locs1 → W p l e R s m args below meth c H1 locs1 (cells + mc) (slots + ms) Q (F0 m (pc + 3) ls (.double r :: rest))) : W p l e R s m args below meth c H locs cells slots Q (F0 m pc ls st0) := by
  intro T hT X
  rcases hr T hT X with ⟨v, st₀, t, T', L, h0, X', hL, e1, e2, ⟨⟨r, u, hv, hp, hb⟩, hF⟩, st⟩ | ⟨q, st₀, t, T', L, E, ce, h0, X', hL, e1, e2, ⟨u, hp, hb, hF⟩, hce, hcv, hcl, st⟩
  · cases hv
    obtain ⟨k1, k2, k3⟩ := vx_keep h0 e1 hS hA hf hL hF
    obtain ⟨t2, a1, b1⟩ := kk r u t T'.heap (locs ++ L) e1.symm (by rw [← e2]; exact X'.warmed.alike) hp hb k1 k2 k3 T' rfl X'
    exact ⟨t2, st t2 a1, b1⟩
  · obtain ⟨k1, k2, k3⟩ := vx_keep h0 e1 hS hAX hf hL hF
    obtain ⟨t2, a1, b1⟩ := kx E ce q u t T'.heap (locs ++ L) e1.symm (by rw [← e2]; exact X'.warmed.alike) hp hb k1 k2 k3 (by rw [e1]; exact hce) hcv hcl T' rfl X'
    exact ⟨t2, st.trans a1, b1⟩
theorem vx_callv {S SX : Type} {post : S → Prop} {px : SX → Prop} {B : S → State → Prop} {BX : String → SX → State → Prop} {AX : Nat → Prop} (hr : vx_Run p l e R s m args below meth c H locs cells slots mc ms (F0 m pc ls st0) rest (va_Qv post B A1 a) (vx_X px BX AX) free) (hS : va_S A0 H0 H locs) (hA : ∀ q, q < H.size → A1 q → A0 q) (hf : ∀ q, free q → A0 q) (hAX : ∀ q, q < H.size → AX q → A0 q)
    (kx : ∀ (E : String) (ce : Cell) (q9 : Addr) (u : SX) (t : State) (H1 : Heap) (locs1 : List Loc), t.heap = H1 → s.vm.Alike t.vm → px u → BX E u t → H.size ≤ H1.size → (∀ q : Nat, q < H.size → ¬ AX q → H1[q]? = H[q]?) → va_S A0 H0 H1 locs1 → H1[q9]? = some ce → ce.vm = .none → s.vm.findClass E = some ce.cls → vx_W p l e R s m args below meth c H1 locs1 (cells + mc) (slots + ms) Q (F0 m pc ls rest) q9)
    (kk : ∀ (u : S) (t : State) (H1 : Heap) (locs1 : List Loc), t.heap = H1 → s.vm.Alike t.vm → post u → B u t → H.size ≤ H1.size → (∀ q : Nat, q < H.size → ¬ A1 q → H1[q]? = H[q]?) → va_S A0 H0 H1 locs1 → W p l e R s m args below meth c H1 locs1 (cells + mc) (slots + ms) Q (F0 m (pc + 3) ls (rest))) : W p l e R s m args below meth c H locs cells slots Q (F0 m pc ls st0) := by
  intro T hT X
  rcases hr T hT X with ⟨v, st₀, t, T', L, h0, X', hL, e1, e2, ⟨⟨u, hv, hp, hb⟩, hF⟩, st⟩ | ⟨q, st₀, t, T', L, E, ce, h0, X', hL, e1, e2, ⟨u, hp, hb, hF⟩, hce, hcv, hcl, st⟩
  · cases hv
    obtain ⟨k1, k2, k3⟩ := vx_keep h0 e1 hS hA hf hL hF
    obtain ⟨t2, a1, b1⟩ := kk u t T'.heap (locs ++ L) e1.symm (by rw [← e2]; exact X'.warmed.alike) hp hb k1 k2 k3 T' rfl X'
    exact ⟨t2, st t2 a1, b1⟩
  · obtain ⟨k1, k2, k3⟩ := vx_keep h0 e1 hS hAX hf hL hF
    obtain ⟨t2, a1, b1⟩ := kx E ce q u t T'.heap (locs ++ L) e1.symm (by rw [← e2]; exact X'.warmed.alike) hp hb k1 k2 k3 (by rw [e1]; exact hce) hcv hcl T' rfl X'
    exact ⟨t2, st.trans a1, b1⟩
/-- caught by the row x of this method's table; the rows ahead don't take it -/
theorem vx_catch {own name : String} {E : String} {ce : Cell} {q : Addr} (hown : s.vm.findClass own = some m.cls) (pre : List ExceptionTableEntry) (x : ExceptionTableEntry) (suf : List ExceptionTableEntry) (hsplit : c.exceptionTable.toList = pre ++ x :: suf)
    (hpass : ∀ z ∈ pre, covers z pc = false ∨ (z.catchType ≠ 0 ∧ ∃ nm : String, (Cond.classLink own z.catchType nm).before args s = true ∧ va_Nc E nm s)) (hx : covers x pc = true) (h0 : x.catchType ≠ 0)
    (hlink : (Cond.classLink own x.catchType name).before args s = true) (hcast : (Cond.castable E name).before args s = true) (hcell : H[q]? = some ce) (hv : ce.vm = .none) (hcl : s.vm.findClass E = some ce.cls)
    (kk : W p l e R s m args below meth c H locs cells slots Q (F0 m x.handlerPc ls [.ref q])) : vx_W p l e R s m args below meth c H locs cells slots Q (F0 m pc ls rest) q := by
  intro T hT X
  have hpl : e.platform.magicAccessors = ({} : Platform).magicAccessors := by rw [X.admits.platform]
  obtain ⟨c3, c4, hc3, hc4, hasg⟩ := Cond.castable_spec hcast
  cases Option.some.inj (hc3.symm.trans hcl)
  obtain ⟨c5, hc5, hcl5⟩ := Cond.classLink_spec hown hlink e.platform hpl
  cases Option.some.inj (hc4.symm.trans hc5)
  obtain ⟨vm', X', st⟩ := X.thenCaughtThrough q (g := F0 m pc ls rest) rfl (Steps.refl _) (by rw [hT]; exact hcell) (by rw [hv]; rfl) (by obtain ⟨k9, h9, -⟩ := Vm.findClass_spec hcl; exact ⟨k9, h9⟩) pre x suf hsplit
    (fun z hz => by
      rcases hpass z hz with h | ⟨hz0, nm, hl1, hn1⟩
      · exact Or.inl h
      · obtain ⟨c6, hc6, hcl6⟩ := Cond.classLink_spec hown hl1 e.platform hpl
        obtain ⟨a8, b8, h1, h2, h3⟩ := hn1
        cases Option.some.inj (h1.symm.trans hcl)
        cases Option.some.inj (h2.symm.trans hc6)
        exact Or.inr ⟨hz0, _, hcl6, h3⟩) hx (Or.inr ⟨h0, c4, hcl5, hasg⟩)
  obtain ⟨t, a1, b1⟩ := kk (T.setVm vm') hT X'
  exact ⟨t, st.trans a1, b1⟩
end Rows
section Ends
variable {p : Program} {l : Launch} {e : Env} {R : Room} {s : State} {m : MethodId} {args : Array Value} {below : List Frame} {meth : Method} {c : Code} {H : Heap} {locs : List Loc} {cells slots : Nat} {Q : State → Prop}
variable {mc ms : Nat} {free : Addr → Prop} {A0 A1 : Nat → Prop} {H0 : Heap} {a : Array Value} {ls : Array Slot} {st0 rest : List Value}
variable {Qc : Array Value → State → Outcome → State → Prop} {XC : String → State → State → Prop}
/-- what a body that may throw owes at its end -/
def vx_MQ (below : List Frame) (Qc : Array Value → State → Outcome → State → Prop) (XC : String → State → State → Prop) (a : Array Value) (s : State) (mc ms : Nat) (free : Addr → Prop) : State → Prop := fun t =>
  ∃ o, t.status = .running ∧ Ended t below o ∧ vx_Q Qc XC mc ms free a s o t
theorem vx_ret {g : JFrame} {mc ms : Nat} (k : W p l e R s m args below meth c H locs cells slots (MQ below Qc args s mc ms free) g) : W p l e R s m args below meth c H locs cells slots (vx_MQ below Qc XC args s mc ms free) g := by
  intro T hT X
  obtain ⟨t, a1, o, b1, b2, b3, b4⟩ := k T hT X
  exact ⟨t, a1, o, b1, b2, Or.inl ⟨b3, b4⟩⟩
/-- not caught here: it goes on to the caller -/
theorem vx_widen {g : JFrame} {q : Addr} {k n : Nat} (h1 : cells ≤ k) (h2 : slots ≤ n) (kk : vx_W p l e R s m args below meth c H locs k n Q g q) : vx_W p l e R s m args below meth c H locs cells slots Q g q := fun T hT X => kk T hT (stand_widen X h1 h2)
theorem vx_out {pc : Nat} {E : String} {ce : Cell} {q : Addr} {mc ms : Nat} (hout : ∀ x ∈ c.exceptionTable.toList, covers x pc = false) (hlocks : meth.locks = false) (hcell : H[q]? = some ce) (hv : ce.vm = .none) (hcl : s.vm.findClass E = some ce.cls)
    (hx : ∀ t : State, t.heap = H → s.vm.Alike t.vm → XC E s t) (hf : ∀ z ∈ locs, free z.base) (hc : cells ≤ mc) (hs : slots ≤ ms) :
    vx_W p l e R s m args below meth c H locs cells slots (vx_MQ below Qc XC args s mc ms free) (F0 m pc ls rest) q := by
  intro T hT X
  obtain ⟨st1, hrun, hend, hW, hsm⟩ := X.leaveThrown q (g := F0 m pc ls rest) rfl rfl rfl hout hlocks
  have hcell9 : (T.setFrames (.throwing q :: below)).heap[q]? = some ce := by
    show T.heap[q]? = some ce
    rw [hT]; exact hcell
  exact ⟨_, st1, .threw q, hrun, hend, Or.inr ⟨q, rfl, E, ce, locs, hx _ hT hW.alike, hcell9, hv, hcl, hW, hsm.mono hc hs, hf⟩⟩
theorem vx_frame {U : State} {k n : Nat} (h : s.sameButNew ({ U with vm := s.vm } : State) locs k n) : s.heap.size ≤ U.heap.size ∧ ∀ q : Nat, q < s.heap.size → (∀ z ∈ locs, z.base ≠ q) → U.heap[q]? = s.heap[q]? := by
  obtain ⟨-, h2, -, -, -, h6⟩ := h
  refine ⟨h2, fun q hq hz => ?_⟩
  obtain ⟨c9, e1, e2, e3, e4⟩ := h6 q _ (Array.getElem?_eq_getElem hq)
  have hs : c9.slots = (s.heap[q]).slots := Array.ext_getElem? fun i => e4 i fun hm => hz _ hm rfl
  have h9 : c9 = s.heap[q] := by
    rw [hs] at e2
    exact e2
  have e5 : U.heap[q]? = some c9 := e1
  rw [e5, h9, Array.getElem?_eq_getElem hq]
/-- the words of a throw but the four that speak of the heap -/
def vx_no (w : Cond) : Bool := decide (w ≠ .isRef (.static Bundle.tN "UNASSIGNED_STACK" Bundle.steD)) && decide (w ≠ .isRef (.static Bundle.tN "SUPPRESSED_SENTINEL" Bundle.listD)) && decide (w ≠ .laysStatic Bundle.tN "UNASSIGNED_STACK" Bundle.steD) && decide (w ≠ .laysStatic Bundle.tN "SUPPRESSED_SENTINEL" Bundle.listD)
def vx_at0 (own : String) (ic : Nat) (X : String) (names : List String) : List Cond := (Bundle.ownAtoms0 own ic X names).filter vx_no
def vx_atS (own : String) (ic : Nat) (X : String) (names : List String) : List Cond := (Bundle.ownAtoms own ic X names).filter vx_no
/-- a word that the tables alone decide, or a good one -/
def vx_ot (w : Cond) : Bool := w.onTables || goodWord w
theorem vx_ot_at {args a' : Array Value} {s U : State} {w : Cond} (hW : s.WarmedH U.vm) (hvm : s.vm = U.vm) (hg : vx_ot w = true) (h : w.before args s = true) : w.before a' U = true := by
  simp only [vx_ot, Bool.or_eq_true] at hg
  rcases hg with hg | hg
  · exact va_tabs hg hvm h
  · exact word_at hW (good_of_word hg) h
/-- a list's words: the good ones out of the method's own list, the others by premises of their own -/
theorem vx_hat {args : Array Value} {s : State} {L B : List Cond} (h1 : ∀ w ∈ L.filter goodWord, w.before args s = true) (h2 : ∀ w ∈ L.filter (fun w => !goodWord w), w ∈ B) (h3 : ∀ w ∈ B, w.before args s = true) : ∀ w ∈ L, w.before args s = true := by
  intro w hw
  by_cases g : goodWord w = true
  · exact h1 w (List.mem_filter.mpr ⟨hw, g⟩)
  · refine h3 w (h2 w (List.mem_filter.mpr ⟨hw, ?_⟩))
    show (!goodWord w) = true
    cases hgw : goodWord w
    · rfl
    · exact absurd hgw g
theorem vx_c {args : Array Value} {s : State} {w : Cond} {B : List Cond} (h : w.before args s = true) (t : ∀ w ∈ B, w.before args s = true) : ∀ w' ∈ w :: B, w'.before args s = true := fun w' h' => (List.mem_cons.mp h').elim (fun e => by rw [e]; exact h) (t w')
theorem vx_n {args : Array Value} {s : State} : ∀ w ∈ ([] : List Cond), w.before args s = true := fun _ h => nomatch h
theorem vx_own {args : Array Value} {s : State} {L : List Cond} (h1 : ∀ w ∈ L.filter vx_no, w.before args s = true)
    (hU : (Cond.isRef (.static Bundle.tN "UNASSIGNED_STACK" Bundle.steD)).before args s = true) (hN : (Cond.isRef (.static Bundle.tN "SUPPRESSED_SENTINEL" Bundle.listD)).before args s = true)
    (lU : (Cond.laysStatic Bundle.tN "UNASSIGNED_STACK" Bundle.steD).before args s = true) (lN : (Cond.laysStatic Bundle.tN "SUPPRESSED_SENTINEL" Bundle.listD).before args s = true) : ∀ w ∈ L, w.before args s = true := by
  intro w hw
  by_cases e1 : w = .isRef (.static Bundle.tN "UNASSIGNED_STACK" Bundle.steD)
  · rw [e1]; exact hU
  · by_cases e2 : w = .isRef (.static Bundle.tN "SUPPRESSED_SENTINEL" Bundle.listD)
    · rw [e2]; exact hN
    · by_cases e3 : w = .laysStatic Bundle.tN "UNASSIGNED_STACK" Bundle.steD
      · rw [e3]; exact lU
      · by_cases e4 : w = .laysStatic Bundle.tN "SUPPRESSED_SENTINEL" Bundle.listD
        · rw [e4]; exact lN
        · exact h1 w (List.mem_filter.mpr ⟨hw, by unfold vx_no; rw [decide_eq_true e1, decide_eq_true e2, decide_eq_true e3, decide_eq_true e4]; rfl⟩)
/-- where a static field lies, its class's statics cell in H -/
def vx_L (C n d : String) (A : Nat → Prop) (U : State) (H : Heap) : Prop := ∃ (c : ClassId) (k : Class) (i : Nat) (f : Field) (a : Nat) (cell : Cell), U.vm.findClass C = some c ∧ U.fieldFound? C n d = some (c, k, i, f) ∧ f.isStatic = true ∧ k.statics = some a ∧ H[a]? = some cell ∧ cell.vm.isStatics = true ∧ cell.cls = c ∧ f.slot < cell.slots.size ∧ k.staticTypes[f.slot]? = some f.type ∧ ¬ A a
theorem vx_L.moved {C n d : String} {A : Nat → Prop} {u U : State} {H : Heap} (hvm : u.vm.Alike U.vm) (h : vx_L C n d A u H) : vx_L C n d A U H := by
  obtain ⟨c, k, i, f, a, cell, h1, h2, h3, h4, h5, h6, h7, h8, h9, h10⟩ := h
  obtain ⟨k', hi', he⟩ := State.fieldFound?_setVm hvm h2
  exact ⟨c, k', i, f, a, cell, by rw [hvm.findClass]; exact h1, hi', h3, by rw [he]; exact h4, h5, h6, h7, h8, by rw [he]; exact h9, h10⟩
theorem vx_L.kept {C n d : String} {A : Nat → Prop} {U : State} {H H1 : Heap} (h : vx_L C n d A U H) (hq : ∀ a : Nat, a < H.size → ¬ A a → H1[a]? = H[a]?) : vx_L C n d A U H1 := by
  obtain ⟨c, k, i, f, a, cell, h1, h2, h3, h4, h5, h6, h7, h8, h9, h10⟩ := h
  exact ⟨c, k, i, f, a, cell, h1, h2, h3, h4, by rw [hq a (Array.getElem?_eq_some_iff.mp h5).1 h10]; exact h5, h6, h7, h8, h9, h10⟩
theorem vx_L.narrow {C n d : String} {A B : Nat → Prop} {U : State} {H : Heap} (h : vx_L C n d A U H) (hAB : ∀ q, B q → A q) : vx_L C n d B U H := by
  obtain ⟨c, k, i, f, a, cell, h1, h2, h3, h4, h5, h6, h7, h8, h9, h10⟩ := h
  exact ⟨c, k, i, f, a, cell, h1, h2, h3, h4, h5, h6, h7, h8, h9, fun z => h10 (hAB _ z)⟩
theorem vx_L.word {C n d : String} {A : Nat → Prop} {s : State} {args : Array Value} (h : vx_L C n d A s s.heap) : (Cond.laysStatic C n d).before args s = true := by
  obtain ⟨c, k, i, f, a, cell, h1, h2, h3, h4, h5, h6, h7, h8, h9, -⟩ := h
  show (Cond.laysStatic C n d).holds args s none s [] = true
  exact Cond.laysStatic_of h1 h2 h3 h4 h5 h6 h7 h8 h9
/-- .. and what it holds: null or some reference -/
def vx_Zq (C n d : String) (A : Nat → Prop) (U : State) (H : Heap) : Prop := va_Zq C n d A U H ∧ vx_L C n d A U H
theorem vx_Zq.moved {C n d : String} {A : Nat → Prop} {u U : State} {H : Heap} (hvm : u.vm.Alike U.vm) (h : vx_Zq C n d A u H) : vx_Zq C n d A U H := ⟨va_Zq.moved hvm h.1, vx_L.moved hvm h.2⟩
theorem vx_Zq.kept {C n d : String} {A : Nat → Prop} {U : State} {H H1 : Heap} (h : vx_Zq C n d A U H) (hq : ∀ a : Nat, a < H.size → ¬ A a → H1[a]? = H[a]?) : vx_Zq C n d A U H1 := ⟨va_Zq.kept h.1 hq, vx_L.kept h.2 hq⟩
theorem vx_Zq.narrow {C n d : String} {A B : Nat → Prop} {U : State} {H : Heap} (h : vx_Zq C n d A U H) (hAB : ∀ q, B q → A q) : vx_Zq C n d B U H := ⟨va_Zq.narrow h.1 hAB, vx_L.narrow h.2 hAB⟩
theorem vx_Zqof {args : Array Value} {s : State} {C n d : String} {A : Nat → Prop} (hl : (Cond.laysStatic C n d).before args s = true) (hini : (Cond.initialized C).before args s = true) (h : (Cond.isRef (.static C n d)).before args s = true) (hA : ∀ a : Nat, a < s.heap.size → ¬ A a) : vx_Zq C n d A s s.heap := by
  refine ⟨va_Zqof hl hini h hA, ?_⟩
  obtain ⟨c, k, i, f, a, cell, h1, h2, h3, h4, h5, h6, h7, h8, h9⟩ := Cond.laysStatic_spec hl
  exact ⟨c, k, i, f, a, cell, h1, h2, h3, h4, h5, h6, h7, h8, h9, hA a (Array.getElem?_eq_some_iff.mp h5).1⟩
theorem vx_isRef {C n d : String} {v : Value} {A : Nat → Prop} {s : State} {args : Array Value} (h : va_Z C n d v A s s.heap) (hv : v.isRef = true) : (Cond.isRef (.static C n d)).before args s = true := by
  obtain ⟨cf, kf, fi, f, a, cell, h1, h2, h3, h4, h5, h6, h7, -⟩ := h
  have he : (Term.static C n d).eval args s none [] s = some v := by
    simp [Term.eval, State.fieldNamed?, h1, h2, h4, h5, h6, h7]
  simp only [Cond.before, Cond.holds, Cond.value, he]
  cases v <;> simp_all [Value.isRef]
theorem vx_isRefq {C n d : String} {A : Nat → Prop} {s : State} {args : Array Value} (h : va_Zq C n d A s s.heap) : (Cond.isRef (.static C n d)).before args s = true := by
  rcases h with h | ⟨t, h⟩
  · exact vx_isRef h rfl
  · exact vx_isRef h rfl
/-- the same frame, seen from here: as if the method were called anew in this heap -/
theorem vx_rebase {T : State} (X : Stand p l e R s m args below meth c T locs cells slots) {R' : Room} (hf : R'.frames ≤ R.frames) (hl : R'.locals ≤ R.locals) (hc : cells + R'.cells ≤ R.cells) (hs : slots + R'.slots ≤ R.slots) :
    Stand p l e R' ((T.setVm s.vm).setFrames (.invoking m args :: below)) m args below meth c T [] 0 0 := by
  have htop : (T.setVm s.vm).topJava?.isSome := X.here.top
  have hF : ((T.setVm s.vm).setFrames (.invoking m args :: below)).frames = .invoking m args :: below := State.frames_setFrames _ (State.cur_lt_of_top htop)
  obtain ⟨g₀, hg0⟩ := Option.isSome_iff_exists.mp htop
  obtain ⟨r, hr⟩ := State.topJava?_eq_some.mp hg0
  have hl9 : e.platform.stackLimits (T.setVm s.vm).me = e.platform.stackLimits s.me := X.limits
  have hb9 : (T.setVm s.vm).me.stackBytes = s.me.stackBytes := X.bytes
  refine ⟨X.admits, X.cas, X.clock, hF, ?_, X.hears, X.method, X.code, X.here, X.tail, X.warmed, ?_, ?_, ?_⟩
  · have h := X.room
    have hU : ((T.setVm s.vm).setFrames (.invoking m args :: below)).localsInUse = s.localsInUse := by
      rw [State.localsInUse_invoking hF (meth := meth) (c := c) X.method X.code, State.localsInUse_invoking X.frames X.method X.code]
    simp only [State.hasRoom, Bool.and_eq_true, decide_eq_true_eq] at h ⊢
    obtain ⟨⟨⟨⟨h1, h2, h3, h4, h5, h6⟩, h7⟩, h8⟩, h9⟩ := h
    rw [X.frames, List.length_cons] at h2 h3
    have q1 := X.heapSize
    have q2 := X.used
    simp only [hF, hU, List.length_cons, State.stackLimits_setFrames, State.stackBytes_setFrames, hl9, hb9]
    refine ⟨⟨⟨⟨by omega, by omega, by omega, by omega, by omega, h6⟩, ?_⟩, ?_⟩, X.book⟩
    · show T.heap.size + R'.cells ≤ e.platform.maxCells
      omega
    · show T.slotsUsed + R'.slots ≤ e.platform.maxSlots
      omega
  · rw [State.stackLimits_setFrames]; rfl
  · rw [State.stackBytes_setFrames]; rfl
  · refine ⟨?_, Nat.le_refl _, Nat.le_refl _, ?_, ?_, fun a c9 h9 => ⟨c9, h9, rfl, rfl, fun _ _ => rfl⟩⟩
    · obtain ⟨t, ht, -⟩ := State.frames_cons hr
      show T.setVm s.vm = { ((T.setVm s.vm).setFrames (.invoking m args :: below)).setFrames (T.setVm s.vm).frames with heap := T.heap, slotsUsed := T.slotsUsed }
      rw [State.setFrames_setFrames, State.setFrames_self ht]
      rfl
    · show T.slotsUsed = T.slotsUsed + ((T.heap.toList.drop T.heap.size).map (·.slots.size)).sum
      rw [List.drop_eq_nil_of_le (Nat.le_of_eq Array.length_toList)]
      rfl
    · show ((T.heap.toList.drop T.heap.size).map (·.slots.size)).sum ≤ 0
      rw [List.drop_eq_nil_of_le (Nat.le_of_eq Array.length_toList)]
      exact Nat.le_refl _
/-- 'throw new E()': new; dup; invokespecial; athrow -/
theorem vx_throw0 {cc : ByteArray} {pc : Nat} (hexec : p.tables.exec = Jvm.exec) (hb : c.code = cc) (hl : l.stackTraces = false) {own cls : String} {names : List String} {ik ic mc ms : Nat} {A : Nat → Prop}
    (hown : s.vm.findClass own = some m.cls) (hcls : Bundle.fit cls = true) (hnames : ∀ n ∈ names, Bundle.fit n = true)
    (hk : (Cond.classLink own ik cls).before args s = true) (hini : (Cond.initialized cls).before args s = true) (hat : ∀ w ∈ vx_at0 own ic cls names, w.before args s = true)
    (hgood : ∀ w ∈ Cond.classLink own ik cls :: Cond.initialized cls :: vx_at0 own ic cls names, vx_ot w = true)
    (hU : vx_Zq Bundle.tN "UNASSIGNED_STACK" Bundle.steD A s s.heap) (hN : vx_Zq Bundle.tN "SUPPRESSED_SENTINEL" Bundle.listD A s s.heap) (hS : va_S A s.heap H locs) (hsize : ls.size = c.maxLocals)
    (d0 : decode cc pc = .ok (.new ik, 3)) (d3 : decode cc (pc + 3) = .ok (.dup, 1)) (d4 : decode cc (pc + 4) = .ok (.invokespecial ic, 3)) (d7 : decode cc (pc + 7) = .ok (.athrow, 1))
    (hout : ∀ x ∈ c.exceptionTable.toList, covers x (pc + 7) = false)
    (hRframes : names.length + 3 < R.frames) (hRlocals : (rest.map fun v => v.category).sum + (13 * (names.length + 1) + 42) ≤ R.locals) (hRcells : cells + 1 ≤ R.cells) (hRslots : slots + 6 ≤ R.slots) (hlocks : meth.locks = false)
    (hx : ∀ t : State, s.vm.Alike t.vm → H.size ≤ t.heap.size → (∀ q : Nat, q < H.size → t.heap[q]? = H[q]?) → XC cls s t)
    (hf : ∀ z ∈ locs, free z.base) (hc : cells + 1 ≤ mc) (hs : slots + 6 ≤ ms) :
    W p l e R s m args below meth c H locs cells slots (vx_MQ below Qc XC args s mc ms free) (F0 m pc ls rest) := by
  intro T hT X
  have htr : e.platform.stackTraces = false := (show e.platform.stackTraces = l.stackTraces by rw [X.admits.platform]).trans hl
  have Y := vx_rebase X (R' := { frames := R.frames, locals := R.locals, cells := 1, slots := 6 }) (Nat.le_refl _) (Nat.le_refl _) hRcells hRslots
  obtain ⟨s', hA⟩ : ∃ z, z = (T.setVm s.vm).setFrames (.invoking m args :: below) := ⟨_, rfl⟩
  rw [← hA] at Y
  have hvm : s'.vm = s.vm := by rw [hA]; rfl
  have hhp : s'.heap = H := by rw [hA]; exact hT
  have hW0 : s.WarmedH s'.vm := by rw [hvm]; exact State.WarmedH.refl s
  have hat' : ∀ w ∈ vx_at0 own ic cls names, w.before args s' = true := fun w hw => vx_ot_at hW0 hvm.symm (hgood w (List.mem_cons_of_mem _ (List.mem_cons_of_mem _ hw))) (hat w hw)
  have hk' : (Cond.classLink own ik cls).before args s' = true := vx_ot_at hW0 hvm.symm (hgood _ List.mem_cons_self) hk
  have hini' : (Cond.initialized cls).before args s' = true := vx_ot_at hW0 hvm.symm (hgood _ (List.mem_cons_of_mem _ List.mem_cons_self)) hini
  have hU' : vx_Zq Bundle.tN "UNASSIGNED_STACK" Bundle.steD A s' s'.heap := by rw [hhp]; exact vx_Zq.moved hW0.alike (hU.kept hS.2.1)
  have hN' : vx_Zq Bundle.tN "SUPPRESSED_SENTINEL" Bundle.listD A s' s'.heap := by rw [hhp]; exact vx_Zq.moved hW0.alike (hN.kept hS.2.1)
  have h : ∀ w ∈ Bundle.ownAtoms0 own ic cls names, w.before args s' = true := vx_own hat' (vx_isRefq hU'.1) (vx_isRefq hN'.1) hU'.2.word hN'.2.word
  have hown' : s'.vm.findClass own = some m.cls := by rw [hvm]; exact hown
  have hins : (Cond.instantiable cls 6).before args s' = true := h _ (by simp [Bundle.ownAtoms0])
  obtain ⟨vm₁, cX, kX, hfX, hkX, -, -, X₁, st1⟩ := Y.newCold hexec (own := own) (C := cls) (index := ik) (n := 6) hown' hk' hins hini'
    (g := F0 m pc ls rest) rfl (by rw [hb]; exact d0) (Nat.le_refl _) (Nat.le_refl _)
  generalize hT1 : (T.setVm vm₁).pushCell { cls := cX, slots := kX.instanceTypes.map defaultValue, vm := .none } = T1 at X₁ st1
  have hcat : (Value.ref T.heap.size).category = 1 := rfl
  have hcellA : T1.heap[T.heap.size]? = some (freshCell cX kX) := by rw [← hT1]; exact State.heap_pushCell_size _ _
  have d3' : decode c.code (pc + 3) = .ok (.dup, 1) := by rw [hb]; exact d3
  obtain ⟨U, hsteps, hrun, hend, hW, hsame, ce, hce, hO⟩ := X₁.ctorThrow0 hexec htr (own := own) (cls := cls) (names := names) (ic := ic) hown' hcls hnames h (fun x hx => nomatch hx) hfX hkX hcellA (by rw [hhp, hT]; exact Nat.le_refl _)
    (g := { method := m, pc := pc + 4, locals := ls, stack := .ref T.heap.size :: .ref T.heap.size :: rest, locked := none }) rfl hsize rfl rfl (rest := rest) rfl
    (by rw [hb]; exact d4) (by rw [hb]; exact d7) hout hRframes (by simp only [List.map_cons, List.sum_cons, hcat]; omega) hlocks
  obtain ⟨f1, f2⟩ := vx_frame hsame
  rw [hhp] at f1 f2
  have hWs : s.WarmedH U.vm := State.WarmedH.trans hW0 hW
  have hcl : s.vm.findClass cls = some ce.cls := by
    have h9 := hO.cls
    rw [hvm] at h9
    exact h9
  have hall : s.sameButNew ({ U with vm := s.vm } : State) locs mc ms := by
    subst hA
    obtain ⟨e1, e2⟩ := hsame
    rw [State.setFrames_setFrames] at e1
    have h2 : (T.setVm s.vm).sameButNew ({ U with vm := s.vm } : State) [] (0 + 1) (0 + 6) := ⟨e1, e2⟩
    have h3 := X.same.trans h2
    rw [List.append_nil] at h3
    exact h3.mono hc hs
  refine ⟨U, ?_, .threw T.heap.size, hrun, hend, Or.inr ⟨T.heap.size, rfl, cls, ce, locs, hx U hWs.alike f1 (fun q hq => f2 q hq (fun z hz => nomatch hz)), hce, hO.vm, hcl, hWs, hall, hf⟩⟩
  refine st1 _ ?_
  show Steps p.tables e below (T1.setTop { method := m, pc := pc + 3, locals := ls, stack := .ref T.heap.size :: rest, locked := none }) _
  jvm_step X₁.here [X₁.here.top, hexec, d3', Value.category]
  exact hsteps
/-- 'throw new E("text")': new; dup; ldc; invokespecial; athrow -/
theorem vx_throwS {cc : ByteArray} {pc : Nat} (hexec : p.tables.exec = Jvm.exec) (hb : c.code = cc) (hl : l.stackTraces = false) {own cls text : String} {names : List String} {ik is ic mc ms sa : Nat} {A : Nat → Prop}
    (hown : s.vm.findClass own = some m.cls) (hcls : Bundle.fit cls = true) (hnames : ∀ n ∈ names, Bundle.fit n = true)
    (hk : (Cond.classLink own ik cls).before args s = true) (hini : (Cond.initialized cls).before args s = true) (hstr : vk_R own is text sa s) (hat : ∀ w ∈ vx_atS own ic cls names, w.before args s = true)
    (hgood : ∀ w ∈ Cond.classLink own ik cls :: Cond.initialized cls :: vx_atS own ic cls names, vx_ot w = true)
    (hU : vx_Zq Bundle.tN "UNASSIGNED_STACK" Bundle.steD A s s.heap) (hN : vx_Zq Bundle.tN "SUPPRESSED_SENTINEL" Bundle.listD A s s.heap) (hS : va_S A s.heap H locs) (hsize : ls.size = c.maxLocals)
    (d0 : decode cc pc = .ok (.new ik, 3)) (d3 : decode cc (pc + 3) = .ok (.dup, 1)) (d4 : decode cc (pc + 4) = .ok (.ldc is, 2)) (d6 : decode cc (pc + 6) = .ok (.invokespecial ic, 3)) (d9 : decode cc (pc + 9) = .ok (.athrow, 1))
    (hout : ∀ x ∈ c.exceptionTable.toList, covers x (pc + 9) = false)
    (hRframes : names.length + 3 < R.frames) (hRlocals : (rest.map fun v => v.category).sum + (13 * (names.length + 1) + 43) ≤ R.locals) (hRcells : cells + 1 ≤ R.cells) (hRslots : slots + 6 ≤ R.slots) (hlocks : meth.locks = false)
    (hx : ∀ t : State, s.vm.Alike t.vm → H.size ≤ t.heap.size → (∀ q : Nat, q < H.size → t.heap[q]? = H[q]?) → XC cls s t)
    (hf : ∀ z ∈ locs, free z.base) (hc : cells + 1 ≤ mc) (hs : slots + 6 ≤ ms) :
    W p l e R s m args below meth c H locs cells slots (vx_MQ below Qc XC args s mc ms free) (F0 m pc ls rest) := by
  intro T hT X
  have htr : e.platform.stackTraces = false := (show e.platform.stackTraces = l.stackTraces by rw [X.admits.platform]).trans hl
  have Y := vx_rebase X (R' := { frames := R.frames, locals := R.locals, cells := 1, slots := 6 }) (Nat.le_refl _) (Nat.le_refl _) hRcells hRslots
  obtain ⟨s', hA⟩ : ∃ z, z = (T.setVm s.vm).setFrames (.invoking m args :: below) := ⟨_, rfl⟩
  rw [← hA] at Y
  have hvm : s'.vm = s.vm := by rw [hA]; rfl
  have hhp : s'.heap = H := by rw [hA]; exact hT
  have hW0 : s.WarmedH s'.vm := by rw [hvm]; exact State.WarmedH.refl s
  have hat' : ∀ w ∈ vx_atS own ic cls names, w.before args s' = true := fun w hw => vx_ot_at hW0 hvm.symm (hgood w (List.mem_cons_of_mem _ (List.mem_cons_of_mem _ hw))) (hat w hw)
  have hk' : (Cond.classLink own ik cls).before args s' = true := vx_ot_at hW0 hvm.symm (hgood _ List.mem_cons_self) hk
  have hini' : (Cond.initialized cls).before args s' = true := vx_ot_at hW0 hvm.symm (hgood _ (List.mem_cons_of_mem _ List.mem_cons_self)) hini
  have hU' : vx_Zq Bundle.tN "UNASSIGNED_STACK" Bundle.steD A s' s'.heap := by rw [hhp]; exact vx_Zq.moved hW0.alike (hU.kept hS.2.1)
  have hN' : vx_Zq Bundle.tN "SUPPRESSED_SENTINEL" Bundle.listD A s' s'.heap := by rw [hhp]; exact vx_Zq.moved hW0.alike (hN.kept hS.2.1)
  have h : ∀ w ∈ Bundle.ownAtoms own ic cls names, w.before args s' = true := vx_own hat' (vx_isRefq hU'.1) (vx_isRefq hN'.1) hU'.2.word hN'.2.word
  have hown' : s'.vm.findClass own = some m.cls := by rw [hvm]; exact hown
  have hins : (Cond.instantiable cls 6).before args s' = true := h _ (by simp [Bundle.ownAtoms])
  obtain ⟨vm₁, cX, kX, hfX, hkX, -, -, X₁, st1⟩ := Y.newCold hexec (own := own) (C := cls) (index := ik) (n := 6) hown' hk' hins hini'
    (g := F0 m pc ls rest) rfl (by rw [hb]; exact d0) (Nat.le_refl _) (Nat.le_refl _)
  generalize hT1 : (T.setVm vm₁).pushCell { cls := cX, slots := kX.instanceTypes.map defaultValue, vm := .none } = T1 at X₁ st1
  have hcat : (Value.ref T.heap.size).category = 1 := rfl
  have hcellA : T1.heap[T.heap.size]? = some (freshCell cX kX) := by rw [← hT1]; exact State.heap_pushCell_size _ _
  have d3' : decode c.code (pc + 3) = .ok (.dup, 1) := by rw [hb]; exact d3
  have d4' : decode c.code (pc + 4) = .ok (.ldc is, 2) := by rw [hb]; exact d4
  have hstr' : vk_R own is text sa s' := vk_R.warm hW0 hstr
  obtain ⟨U, hsteps, hrun, hend, hW, hsame, ce, hce, hO⟩ := X₁.ctorThrowS hexec htr (own := own) (cls := cls) (names := names) (ic := ic) hown' hcls hnames h (fun x hx => nomatch hx) hfX hkX hcellA (by rw [hhp, hT]; exact Nat.le_refl _) (msg := .ref sa) rfl
    (g := { method := m, pc := pc + 6, locals := ls, stack := .ref sa :: .ref T.heap.size :: .ref T.heap.size :: rest, locked := none }) rfl hsize rfl rfl (rest := rest) rfl
    (by rw [hb]; exact d6) (by rw [hb]; exact d9) hout hRframes (by simp only [List.map_cons, List.sum_cons, hcat]; omega) hlocks
  obtain ⟨f1, f2⟩ := vx_frame hsame
  rw [hhp] at f1 f2
  have hWs : s.WarmedH U.vm := State.WarmedH.trans hW0 hW
  have hcl : s.vm.findClass cls = some ce.cls := by
    have h9 := hO.cls
    rw [hvm] at h9
    exact h9
  have hall : s.sameButNew ({ U with vm := s.vm } : State) locs mc ms := by
    subst hA
    obtain ⟨e1, e2⟩ := hsame
    rw [State.setFrames_setFrames] at e1
    have h2 : (T.setVm s.vm).sameButNew ({ U with vm := s.vm } : State) [] (0 + 1) (0 + 6) := ⟨e1, e2⟩
    have h3 := X.same.trans h2
    rw [List.append_nil] at h3
    exact h3.mono hc hs
  refine ⟨U, ?_, .threw T.heap.size, hrun, hend, Or.inr ⟨T.heap.size, rfl, cls, ce, locs, hx U hWs.alike f1 (fun q hq => f2 q hq (fun z hz => nomatch hz)), hce, hO.vm, hcl, hWs, hall, hf⟩⟩
  refine st1 _ ?_
  show Steps p.tables e below (T1.setTop { method := m, pc := pc + 3, locals := ls, stack := .ref T.heap.size :: rest, locked := none }) _
  jvm_step X₁.here [X₁.here.top, hexec, d3', Value.category]
  exact X₁.ldcString hexec (own := own) (text := text) (index := is) (a := sa) hown' hstr'.1 hstr'.2
    (g := { method := m, pc := pc + 4, locals := ls, stack := .ref T.heap.size :: .ref T.heap.size :: rest, locked := none }) rfl d4' _ hsteps
/-- 'throw new E("text")', the text by a wide index -/
theorem vx_throwSW {cc : ByteArray} {pc : Nat} (hexec : p.tables.exec = Jvm.exec) (hb : c.code = cc) (hl : l.stackTraces = false) {own cls text : String} {names : List String} {ik is ic mc ms sa : Nat} {A : Nat → Prop}
    (hown : s.vm.findClass own = some m.cls) (hcls : Bundle.fit cls = true) (hnames : ∀ n ∈ names, Bundle.fit n = true)
    (hk : (Cond.classLink own ik cls).before args s = true) (hini : (Cond.initialized cls).before args s = true) (hstr : vk_R own is text sa s) (hat : ∀ w ∈ vx_atS own ic cls names, w.before args s = true)
    (hgood : ∀ w ∈ Cond.classLink own ik cls :: Cond.initialized cls :: vx_atS own ic cls names, vx_ot w = true)
    (hU : vx_Zq Bundle.tN "UNASSIGNED_STACK" Bundle.steD A s s.heap) (hN : vx_Zq Bundle.tN "SUPPRESSED_SENTINEL" Bundle.listD A s s.heap) (hS : va_S A s.heap H locs) (hsize : ls.size = c.maxLocals)
    (d0 : decode cc pc = .ok (.new ik, 3)) (d3 : decode cc (pc + 3) = .ok (.dup, 1)) (d4 : decode cc (pc + 4) = .ok (.ldc_w is, 3)) (d7 : decode cc (pc + 7) = .ok (.invokespecial ic, 3)) (d10 : decode cc (pc + 10) = .ok (.athrow, 1))
    (hout : ∀ x ∈ c.exceptionTable.toList, covers x (pc + 10) = false)
    (hRframes : names.length + 3 < R.frames) (hRlocals : (rest.map fun v => v.category).sum + (13 * (names.length + 1) + 43) ≤ R.locals) (hRcells : cells + 1 ≤ R.cells) (hRslots : slots + 6 ≤ R.slots) (hlocks : meth.locks = false)
    (hx : ∀ t : State, s.vm.Alike t.vm → H.size ≤ t.heap.size → (∀ q : Nat, q < H.size → t.heap[q]? = H[q]?) → XC cls s t)
    (hf : ∀ z ∈ locs, free z.base) (hc : cells + 1 ≤ mc) (hs : slots + 6 ≤ ms) :
    W p l e R s m args below meth c H locs cells slots (vx_MQ below Qc XC args s mc ms free) (F0 m pc ls rest) := by
  intro T hT X
  have htr : e.platform.stackTraces = false := (show e.platform.stackTraces = l.stackTraces by rw [X.admits.platform]).trans hl
  have Y := vx_rebase X (R' := { frames := R.frames, locals := R.locals, cells := 1, slots := 6 }) (Nat.le_refl _) (Nat.le_refl _) hRcells hRslots
  obtain ⟨s', hA⟩ : ∃ z, z = (T.setVm s.vm).setFrames (.invoking m args :: below) := ⟨_, rfl⟩
  rw [← hA] at Y
  have hvm : s'.vm = s.vm := by rw [hA]; rfl
  have hhp : s'.heap = H := by rw [hA]; exact hT
  have hW0 : s.WarmedH s'.vm := by rw [hvm]; exact State.WarmedH.refl s
  have hat' : ∀ w ∈ vx_atS own ic cls names, w.before args s' = true := fun w hw => vx_ot_at hW0 hvm.symm (hgood w (List.mem_cons_of_mem _ (List.mem_cons_of_mem _ hw))) (hat w hw)
  have hk' : (Cond.classLink own ik cls).before args s' = true := vx_ot_at hW0 hvm.symm (hgood _ List.mem_cons_self) hk
  have hini' : (Cond.initialized cls).before args s' = true := vx_ot_at hW0 hvm.symm (hgood _ (List.mem_cons_of_mem _ List.mem_cons_self)) hini
  have hU' : vx_Zq Bundle.tN "UNASSIGNED_STACK" Bundle.steD A s' s'.heap := by rw [hhp]; exact vx_Zq.moved hW0.alike (hU.kept hS.2.1)
  have hN' : vx_Zq Bundle.tN "SUPPRESSED_SENTINEL" Bundle.listD A s' s'.heap := by rw [hhp]; exact vx_Zq.moved hW0.alike (hN.kept hS.2.1)
  have h : ∀ w ∈ Bundle.ownAtoms own ic cls names, w.before args s' = true := vx_own hat' (vx_isRefq hU'.1) (vx_isRefq hN'.1) hU'.2.word hN'.2.word
  have hown' : s'.vm.findClass own = some m.cls := by rw [hvm]; exact hown
  have hins : (Cond.instantiable cls 6).before args s' = true := h _ (by simp [Bundle.ownAtoms])
  obtain ⟨vm₁, cX, kX, hfX, hkX, -, -, X₁, st1⟩ := Y.newCold hexec (own := own) (C := cls) (index := ik) (n := 6) hown' hk' hins hini'
    (g := F0 m pc ls rest) rfl (by rw [hb]; exact d0) (Nat.le_refl _) (Nat.le_refl _)
  generalize hT1 : (T.setVm vm₁).pushCell { cls := cX, slots := kX.instanceTypes.map defaultValue, vm := .none } = T1 at X₁ st1
  have hcat : (Value.ref T.heap.size).category = 1 := rfl
  have hcellA : T1.heap[T.heap.size]? = some (freshCell cX kX) := by rw [← hT1]; exact State.heap_pushCell_size _ _
  have d3' : decode c.code (pc + 3) = .ok (.dup, 1) := by rw [hb]; exact d3
  have d4' : decode c.code (pc + 4) = .ok (.ldc_w is, 3) := by rw [hb]; exact d4
  have hstr' : vk_R own is text sa s' := vk_R.warm hW0 hstr
  obtain ⟨U, hsteps, hrun, hend, hW, hsame, ce, hce, hO⟩ := X₁.ctorThrowS hexec htr (own := own) (cls := cls) (names := names) (ic := ic) hown' hcls hnames h (fun x hx => nomatch hx) hfX hkX hcellA (by rw [hhp, hT]; exact Nat.le_refl _) (msg := .ref sa) rfl
    (g := { method := m, pc := pc + 7, locals := ls, stack := .ref sa :: .ref T.heap.size :: .ref T.heap.size :: rest, locked := none }) rfl hsize rfl rfl (rest := rest) rfl
    (by rw [hb]; exact d7) (by rw [hb]; exact d10) hout hRframes (by simp only [List.map_cons, List.sum_cons, hcat]; omega) hlocks
  obtain ⟨f1, f2⟩ := vx_frame hsame
  rw [hhp] at f1 f2
  have hWs : s.WarmedH U.vm := State.WarmedH.trans hW0 hW
  have hcl : s.vm.findClass cls = some ce.cls := by
    have h9 := hO.cls
    rw [hvm] at h9
    exact h9
  have hall : s.sameButNew ({ U with vm := s.vm } : State) locs mc ms := by
    subst hA
    obtain ⟨e1, e2⟩ := hsame
    rw [State.setFrames_setFrames] at e1
    have h2 : (T.setVm s.vm).sameButNew ({ U with vm := s.vm } : State) [] (0 + 1) (0 + 6) := ⟨e1, e2⟩
    have h3 := X.same.trans h2
    rw [List.append_nil] at h3
    exact h3.mono hc hs
  refine ⟨U, ?_, .threw T.heap.size, hrun, hend, Or.inr ⟨T.heap.size, rfl, cls, ce, locs, hx U hWs.alike f1 (fun q hq => f2 q hq (fun z hz => nomatch hz)), hce, hO.vm, hcl, hWs, hall, hf⟩⟩
  refine st1 _ ?_
  show Steps p.tables e below (T1.setTop { method := m, pc := pc + 3, locals := ls, stack := .ref T.heap.size :: rest, locked := none }) _
  jvm_step X₁.here [X₁.here.top, hexec, d3', Value.category]
  exact X₁.ldcStringW hexec (own := own) (text := text) (index := is) (a := sa) hown' hstr'.1 hstr'.2
    (g := { method := m, pc := pc + 4, locals := ls, stack := .ref T.heap.size :: .ref T.heap.size :: rest, locked := none }) rfl d4' _ hsteps
end Ends
section Bodies
variable {l : Launch}
theorem vx_ofW {y : MethodName} {ws ws' : List Cond} {rm : Room} {Pc : Array Value → State → Prop} {Qc : Array Value → State → Outcome → State → Prop} {XC : String → State → State → Prop} {mc ms : Nat} {free : Addr → Prop} {cc : ByteArray} {maxL : Nat} {ret : Option FieldType}
    (hy : plainName y.cls = true) (hw : ws = Cond.code y cc maxL ret :: ws')
    (body : ∀ p e s m args below meth c s₁, BodyLoose p l y (headSpec ws rm) cc maxL ret e s m args below meth c s₁ → c.maxLocals = maxL → (∀ x ∈ c.exceptionTable.toList, False) → Pc args s →
      W p l e (headSpec ws rm).room s m args below meth c s.heap [] 0 0 (vx_MQ below Qc XC args s mc ms free) (entryFrame m args maxL)) : vx_Met l y ws rm Pc Qc XC mc ms free := by
  refine MetFree.of_bodyS (code := cc) (maxLocals := maxL) (ret := ret) hy ?_ ?_
  · intro args s m h hn
    obtain ⟨meth, c, h1, h2, h3, h4, h5, h6, -, -⟩ := Cond.code_spec hn (atoms_spec (ws := ws) h _ (by rw [hw]; exact List.mem_cons_self))
    exact ⟨meth, c, h1, h2, h3, h4, h5, h6⟩
  · intro p e s m args below meth c s₁ B hml hP _
    have hh0 : s₁.heap = s.heap := by rw [B.state]; rfl
    have ht : ∀ x ∈ c.exceptionTable.toList, False := by
      obtain ⟨meth9, c9, h1, h2, -, -, -, -, h7, -⟩ := Cond.code_spec B.named (atoms_spec (ws := ws) B.pre _ (by rw [hw]; exact List.mem_cons_self))
      cases Option.some.inj (h1.symm.trans B.method)
      cases Option.some.inj (h2.symm.trans (Stand.of_body B).code)
      intro x hx
      rw [Array.isEmpty_iff.mp h7] at hx
      cases hx
    obtain ⟨t, a1, o, b1, b2, b3⟩ := body p e s m args below meth c s₁ B hml ht hP s₁ hh0 (Stand.of_body B)
    exact ⟨t, o, a1, b1, b2, b3⟩
/-- the table of a body with handlers -/
theorem vx_table {p : Program} {x y : MethodName} {S : Spec} {cc bytes : ByteArray} {maxL maxL' : Nat} {ret ret' : Option FieldType} {e : Env} {s s₁ : State} {m : MethodId} {args : Array Value} {below : List Frame} {meth : Method} {c : Code} {hh : List (Nat × Nat × Nat × Nat)}
    (B : BodyLoose p l y S cc maxL ret e s m args below meth c s₁) (h : (Cond.codeWith y bytes maxL' ret' hh).before args s = true) : c.exceptionTable.toList = tableOf hh := by
  obtain ⟨m9, meth9, c9, hn9, h1, h2, -, -, h6, -⟩ := Cond.codeWith_spec h
  cases Option.some.inj (hn9.symm.trans B.named)
  cases Option.some.inj (h1.symm.trans B.method)
  cases Option.some.inj (h2.symm.trans (Stand.of_body B).code)
  rw [← h6, table_eq]
end Bodies
end VXA
/-! ===== END ===== -/
/-! ===== BEGIN a static call of a method with an exception table ===== -/
section VXS
variable {p : Program} {l : Launch} {e : Env} {R : Room} {s : State} {m : MethodId} {args : Array Value} {below : List Frame} {meth : Method} {c : Code} {T : State} {H : Heap} {locs : List Loc} {cells slots : Nat}
abbrev vx_CSW (R : Room) (s : State) (args : Array Value) (own : String) (index : Nat) (y : MethodName) (bytes : ByteArray) (maxL : Nat) (ret : Option FieldType) (hh : List (Nat × Nat × Nat × Nat)) (ws : List Cond) (rm : Room) (mc ms n : Nat) : Prop :=
  (rm.cells = mc ∧ rm.slots = ms ∧ rm.frames + 1 ≤ R.frames ∧ 8 + (maxL + 11) + rm.locals ≤ R.locals ∧ (∀ w ∈ ws, ∀ (a' : Array Value) (U : State), s.WarmedH U.vm → w.before a' U = true) ∧ Cond.codeWith y bytes maxL ret hh ∈ ws) ∧
  (Cond.codeWith y bytes maxL ret hh).before args s = true ∧ (Cond.initialized y.cls).before args s = true ∧ (y.cls ≠ "java/lang/invoke/MethodHandle" ∧ y.cls ≠ "java/lang/invoke/VarHandle") ∧
  (∀ sig, parseMethodDescriptor y.desc = some sig → n = sig.parameters.length) ∧ (Cond.methodLink own index y).before args s = true ∧ (Cond.static y).before args s = true
theorem vx_cwSW {own : String} {index maxL mc ms : Nat} {y : MethodName} {bytes : ByteArray} {ret : Option FieldType} {hh : List (Nat × Nat × Nat × Nat)} {Ts ws ws' : List Cond} {rm : Room} (n : Nat) (ht : ∀ w ∈ Ts, w.before args s = true) (hT : GoodIn Ts (va_wsS own index y ws)) (hw : ws = Cond.codeWith y bytes maxL ret hh :: ws') (hrc : rm.cells = mc) (hrs : rm.slots = ms)
    (hd : y.cls ≠ "java/lang/invoke/MethodHandle" ∧ y.cls ≠ "java/lang/invoke/VarHandle" ∧ (parseMethodDescriptor y.desc).map (fun d => d.parameters.length) = some n) (hR : rm.frames + 1 ≤ R.frames ∧ 8 + (maxL + 11) + rm.locals ≤ R.locals) :
    vx_CSW R s args own index y bytes maxL ret hh ws rm mc ms n := by
  have ok : ∀ w ∈ va_wsS own index y ws, w.before args s = true := fun w h => ht w (hT w h).1
  have hG : GoodIn Ts ws := fun w h => hT w (by unfold va_wsS; exact List.mem_append_right _ h)
  have hc : Cond.codeWith y bytes maxL ret hh ∈ ws := by rw [hw]; exact List.mem_cons_self
  refine ⟨⟨hrc, hrs, hR.1, hR.2, pay_in ht hG, hc⟩, ht _ (hG _ hc).1, ok _ (by simp [va_wsS]), ⟨hd.1, hd.2.1⟩, fun sig h => ?_, ok _ (by simp [va_wsS]), ok _ (by simp [va_wsS])⟩
  have h2 := hd.2.2
  rw [h] at h2
  exact (Option.some.inj h2).symm
theorem vx_callSW (X : Stand p l e R s m args below meth c T locs cells slots) (hexec : p.tables.exec = Jvm.exec) {own : String} {index : Nat} {y : MethodName} {bytes : ByteArray} {maxL : Nat} {ret : Option FieldType} {hh : List (Nat × Nat × Nat × Nat)}
    (hown : s.vm.findClass own = some m.cls) (hlink : (Cond.methodLink own index y).before args s = true) (hstat : (Cond.static y).before args s = true) (hinit : (Cond.initialized y.cls).before args s = true)
    (hcode : (Cond.codeWith y bytes maxL ret hh).before args s = true) (hy : y.cls ≠ "java/lang/invoke/MethodHandle" ∧ y.cls ≠ "java/lang/invoke/VarHandle")
    {W9 : Nat} {Pre : Pt → Array Value → Prop} {Post : Pt → Array Value → Option Value → Pt → Prop} (hK : Back l R p e below s args y 3 W9 Pre Post)
    {g : JFrame} (hg : g.method = m) (hsize : g.locals.size = c.maxLocals) {argsL rest : List Value} (hlen : ∀ sig, parseMethodDescriptor y.desc = some sig → argsL.length = sig.parameters.length)
    (hstack : g.stack = argsL.reverse ++ rest) (hW : 2 * g.monitorRoom + (rest.map fun v => v.category).sum ≤ W9) (hdg : decode c.code g.pc = .ok (.invokestatic index, 3))
    (hpre : ∀ vm₁, s.WarmedH vm₁ → Pre ⟨T.setVm vm₁, locs, cells, slots⟩ argsL.toArray) :
    ∃ (v : Option Value) (vm₁ : Vm) (B : Pt), s.WarmedH vm₁ ∧ Stand p l e R s m args below meth c B.U B.locs B.cells B.slots ∧ Post ⟨T.setVm vm₁, locs, cells, slots⟩ argsL.toArray v B ∧
      ∀ target, Steps p.tables e below (B.U.setTop { g with pc := g.pc + 3, stack := v.toList ++ rest }) target → Steps p.tables e below (T.setTop g) target := by
  obtain ⟨mk, methM, cM, hnamed, hmethM, -, -, -, -, -, -, hsigM⟩ := Cond.codeWith_spec hcode
  have hstatic : methM.isStatic = true := Cond.static_spec hnamed hmethM hstat
  obtain ⟨kP, hkP, -⟩ := className_of_methodNamed hnamed
  have hinitP : kP.init = .initialized := Cond.initialized_spec (findClass_of_methodNamed hnamed) hkP hinit
  obtain ⟨vm₁, X₁, hstep₁⟩ := X.invokestatic hexec hown hlink hnamed hmethM hstatic hkP hinitP hy (g := g) hg (argsL := argsL) (rest := rest) (hlen _ hsigM) hstack hdg
  obtain ⟨v, B, X', hpost, hsteps⟩ := hK m meth c ⟨T.setVm vm₁, locs, cells, slots⟩ { g with stack := rest } (.invokestatic index) mk argsL.toArray X₁ hg hsize hdg hW (X₁.named hnamed) (hpre vm₁ X₁.warmed)
  exact ⟨v, vm₁, B, X₁.warmed, X', hpost, fun target h => hstep₁ _ fun acts => by rw [doInvoke_state]; exact hsteps.trans h⟩
theorem vx_runSW {y : MethodName} {bytes cc : ByteArray} {maxL nL mc ms n index : Nat} {ret : Option FieldType} {hh : List (Nat × Nat × Nat × Nat)} {ws : List Cond} {rm : Room} {Pc : Array Value → State → Prop} {Qc : Array Value → State → Outcome → State → Prop} {free : Addr → Prop} {Ts : List Cond} {own : String} {As rest : List Value} {g : JFrame}
    (S : CallFix p m c cc nL s args Ts own) (hM : Met l y ws rm Pc Qc mc ms free) (cw : vx_CSW R s args own index y bytes maxL ret hh ws rm mc ms n) (hp : PreS s H Pc As)
    (hg : g.method = m) (hn : As.length = n) (hsize : g.locals.size = nL) (hstack : g.stack = As.reverse ++ rest) (hW : 2 * g.monitorRoom + (rest.map fun v => v.category).sum ≤ 8) (hdg : decode cc g.pc = .ok (.invokestatic index, 3)) (hf : cells + mc ≤ R.cells ∧ slots + ms ≤ R.slots) :
    va_Run p l e R s m args below meth c H locs cells slots mc ms g rest (Qc As.toArray) (free) := by
  obtain ⟨⟨hrc, hrs, hfr, hlo, hws, hcw⟩, hcode, hini, hy, hlen, hl, hstt⟩ := cw
  have hK : Back l R p e below s args y 3 8 (PreOf R mc ms Pc) (PostOf Qc mc ms free) := va_backW (hh := hh) (bytes := bytes) (maxL := maxL) (ret := ret) hM hp.1 hrc hrs hfr hlo hws hcw (fun a' U hW => word_at hW (Or.inl (by first | rfl | simp [Cond.onTables, Cond.keeps, Cond.steady])) hini)
  obtain ⟨hx, hb, hml, ho, -⟩ := S
  intro T hT X
  obtain ⟨v, vm₁, ⟨U', l2, c2, s2⟩, hW₁, X', ⟨g', mk, t, L, e1, e2, hq, h1, hL, h2, h3⟩, st⟩ := vx_callSW X hx (hh := hh) (bytes := bytes) (maxL := maxL) (ret := ret) ho hl hstt hini hcode hy hK hg (hsize.trans hml.symm) (argsL := As) (rest := rest) (fun sig h => hn.trans (hlen sig h)) hstack hW (by rw [hb]; exact hdg)
    (fun vm₁ hW₁ => ⟨hf.1, hf.2, hp.2 (T.setVm vm₁) hT hW₁⟩)
  dsimp only [Pt.U, Pt.locs, Pt.cells, Pt.slots] at X' e1 e2 h1 h2 h3 st
  subst h1; subst h2; subst h3
  exact ⟨v, (T.setVm vm₁).calling g' mk As.toArray, t, U', L, hT, X', hL, e1, e2, hq, st⟩
/-- not caught here, past rows that name other classes: it goes on to the caller -/
theorem vx_outP {p : Program} {l : Launch} {e : Env} {R : Room} {s : State} {m : MethodId} {args : Array Value} {below : List Frame} {meth : Method} {c : Code} {H : Heap} {locs : List Loc} {cells slots : Nat} {free : Addr → Prop} {ls : Array Slot} {rest : List Value} {Qc : Array Value → State → Outcome → State → Prop} {XC : String → State → State → Prop}
    {pc : Nat} {own E : String} {ce : Cell} {q : Addr} {mc ms : Nat} (hown : s.vm.findClass own = some m.cls) (hlocks : meth.locks = false)
    (hpass : ∀ z ∈ c.exceptionTable.toList, covers z pc = false ∨ (z.catchType ≠ 0 ∧ ∃ nm : String, (Cond.classLink own z.catchType nm).before args s = true ∧ va_Nc E nm s)) (hcell : H[q]? = some ce) (hv : ce.vm = .none) (hcl : s.vm.findClass E = some ce.cls)
    (hx : ∀ t : State, t.heap = H → s.vm.Alike t.vm → XC E s t) (hf : ∀ z ∈ locs, free z.base) (hc : cells ≤ mc) (hs : slots ≤ ms) :
    vx_W p l e R s m args below meth c H locs cells slots (vx_MQ below Qc XC args s mc ms free) (F0 m pc ls rest) q := by
  intro T hT X
  have hpl : e.platform.magicAccessors = ({} : Platform).magicAccessors := by rw [X.admits.platform]
  obtain ⟨vm', hW', X', st⟩ := X.outThrough hlocks q (g := F0 m pc ls rest) rfl rfl rfl (cell := ce) (by rw [hT]; exact hcell) (by rw [hv]; rfl)
    (by obtain ⟨k9, h9, -⟩ := Vm.findClass_spec hcl; exact ⟨k9, h9⟩) (fun z hz => by
      rcases hpass z hz with h | ⟨hz0, nm, hl1, hn1⟩
      · exact Or.inl h
      · obtain ⟨c6, hc6, hcl6⟩ := Cond.classLink_spec hown hl1 e.platform hpl
        obtain ⟨a8, b8, h1, h2, h3⟩ := hn1
        cases Option.some.inj (h1.symm.trans hcl)
        cases Option.some.inj (h2.symm.trans hc6)
        exact Or.inr ⟨hz0, _, hcl6, h3⟩)
  obtain ⟨g₀, hfr⟩ := X'.frames_eq
  have hcell9 : ((T.setVm vm').setFrames (.throwing q :: below)).heap[q]? = some ce := by
    show T.heap[q]? = some ce
    rw [hT]; exact hcell
  have hend : Ended ((T.setVm vm').setFrames (.throwing q :: below)) below (.threw q) := State.frames_setFrames _ (State.cur_lt_of_frames hfr)
  refine ⟨(T.setVm vm').setFrames (.throwing q :: below), ?_, .threw q, X'.here.running, hend, Or.inr ⟨q, rfl, E, ce, locs, hx _ hT (X'.ends _).1.alike, hcell9, hv, hcl, (X'.ends _).1, (X'.ends _).2.mono hc hs, hf⟩⟩
  rw [X.pushThrowing_eq]
  exact st
/-- a thing of a world lies in the heap -/
theorem vx_lt {D : va_G} {cl : List vw_C} {ws : va_W} {H1 : Heap} (h : va_P D cl ws H1) {k : Nat} {q : Nat × va_E} (hk : ws[k]? = some q) : q.1 < H1.size := (h k q hk).lt
end VXS
/-! ===== END ===== -/
/-! ===== BEGIN methods with a table of their own: called by a name, returning or throwing ===== -/
section VXH
/-! vx_backW, vx_callVX, vx_callSX, vx_callVW, vx_runVW, vx_runVX, vx_runSX, vx_ofWH follow the same proofs as their sisters above (Free/Laws.lean, Shelf42/LK1.lean); vx_outP calls Shelf42/NT130.lean (outThrough). -/
section
variable {l : Launch} {R : Room} {p : Program} {e : Env} {below : List Frame} {s : State} {sargs : Array Value} {y : MethodName} {len W9 : Nat}
theorem vx_backW {ws : List Cond} {rm : Room} {Pc : Array Value → State → Prop} {Qc : Array Value → State → Outcome → State → Prop} {XC : String → State → State → Prop} {mc ms : Nat} {free : Addr → Prop} {bytes : ByteArray} {maxL : Nat} {ret : Option FieldType} {hh : List (Nat × Nat × Nat × Nat)}
    (hM : vx_Met l y ws rm Pc Qc XC mc ms free) (hblind : FrameBlind Pc) (hrc : rm.cells = mc) (hrs : rm.slots = ms)
    (hframes : rm.frames + 1 ≤ R.frames) (hlocals : W9 + (maxL + 11) + rm.locals ≤ R.locals)
    (hws : ∀ w ∈ ws, ∀ a' U, s.WarmedH U.vm → w.before a' U = true) (hcode : Cond.codeWith y bytes maxL ret hh ∈ ws) (hinit : ∀ a' U, s.WarmedH U.vm → (Cond.initialized y.cls).before a' U = true) :
    vx_Back l R p e below s sargs y len W9 (PreOf R mc ms Pc) (PostOf Qc mc ms free) (vx_Post XC mc ms free) := by
  intro m meth c A g ig mk a X hg hsize hdg hW hn hp
  have h1 : (headSpec ws rm).pre.before a A.U = true := atoms_intro fun w hw => hws w hw _ _ X.warmed
  have h2 : (Cond.codeWith y bytes maxL ret hh).before a A.U = true := hws _ hcode _ _ X.warmed
  have h3 : (Cond.initialized y.cls).before a A.U = true := hinit _ _ X.warmed
  have h4 : A.cells + (headSpec ws rm).room.cells ≤ R.cells := by rw [show (headSpec ws rm).room.cells = mc from hrc]; exact hp.1
  have h5 : A.slots + (headSpec ws rm).room.slots ≤ R.slots := by rw [show (headSpec ws rm).room.slots = ms from hrs]; exact hp.2.1
  have hPc : Pc a (A.U.calling g mk a) := hblind _ _ _ _ hp.2.2
  obtain ⟨U, Ls, c0, s0⟩ := A
  dsimp only [Pt.U, Pt.locs, Pt.cells, Pt.slots] at h1 h2 h3 h4 h5 X hn hPc ⊢
  obtain ⟨m9, methY, cY, hn9, hmY, hcY, -, hlY, -⟩ := Cond.codeWith_spec h2
  cases Option.some.inj (hn9.symm.trans hn)
  obtain ⟨kY, hkY, -⟩ := className_of_methodNamed hn
  have hinitY : kY.init = .initialized := Cond.initialized_spec (findClass_of_methodNamed hn) hkY h3
  have h : At U g.method c below := by rw [hg]; exact X.here
  have hlocals9 : W9 + (maxL + 11) + (headSpec ws rm).room.locals ≤ R.locals := hlocals
  have happ : (headSpec ws rm).appliesLoose y e.platform (U.calling g mk a) = true :=
    Spec.appliesLoose_calling (g := g) h hdg hn hkY hinitY
      (X.room_calling (g := g) (R' := (headSpec ws rm).room) hsize hmY hcY hframes (by rw [hlY]; omega) h4 h5) h1
  obtain ⟨mid, hmid⟩ := h.above
  have hfr : (U.setTop g).frames = (.java g :: mid) ++ below := by rw [State.frames_setTop' g h.top, hmid]; rfl
  obtain ⟨o, s₂, hsteps, -, hend, hq⟩ := Steps.callFree hM p X.admits X.cas X.clock (acts := []) hfr happ hPc trivial
  have hq' : vx_Q Qc XC mc ms free a (U.calling g mk a) o s₂ := hq
  rw [State.frames_setTop' g h.top] at hend
  obtain ⟨g₀, hg0⟩ := Option.isSome_iff_exists.mp h.top
  obtain ⟨r, hr⟩ := State.topJava?_eq_some.mp hg0
  have hr' : (({ U with heap := s₂.heap, slotsUsed := s₂.slotsUsed } : State).setVm s₂.vm).frames = .java g₀ :: r := hr
  rcases hq' with ⟨hqc, L, hfe, hL⟩ | ⟨q, rfl, E, ce, L, hx, hce, hcv, hcl, hW₂, hsm, hL⟩
  · obtain ⟨⟨v, rfl⟩, hW₂, e2, q2, q3, q4, q5, q6⟩ := id hfe
    have e3 : s₂ = ({ (U.calling g mk a).setFrames s₂.frames with heap := s₂.heap, slotsUsed := s₂.slotsUsed } : State).setVm s₂.vm := by
      have : s₂ = ({ s₂ with vm := (U.calling g mk a).vm } : State).setVm s₂.vm := rfl
      rw [e2] at this
      exact this
    obtain ⟨c₂, i₂, len₂, hc₂, hd₂, hf₂⟩ := hend
    have hW' : U.WarmedH s₂.vm := hW₂
    have hcc : c₂ = c := by
      have h1 : s₂.code? g.method = U.code? g.method := by
        rw [State.code?_eq, State.code?_eq, hW'.alike.method?]
      exact Option.some.inj (hc₂.symm.trans (h1.trans h.code))
    subst hcc
    have hlen : len₂ = len := by rw [hdg] at hd₂; cases hd₂; rfl
    subst hlen
    have hs₂ : s₂ = (({ U with heap := s₂.heap, slotsUsed := s₂.slotsUsed } : State).setVm s₂.vm).setTop { g with pc := g.pc + len₂, stack := v.toList ++ g.stack } := by
      refine e3.trans ?_
      rw [hf₂, State.calling_eq h.top, State.setFrames_setFrames, State.setTop_of_frames _ hr', hr]
      rfl
    have hsame : U.sameButNew ({ U with heap := s₂.heap, slotsUsed := s₂.slotsUsed } : State) L mc ms := by
      refine ⟨?_, q2, q3, q4, q5, q6⟩
      obtain ⟨t, ht, -⟩ := State.frames_cons hr
      show ({ U with heap := s₂.heap, slotsUsed := s₂.slotsUsed } : State) = { U.setFrames U.frames with heap := s₂.heap, slotsUsed := s₂.slotsUsed }
      rw [State.setFrames_self ht]
    subst hg
    refine Or.inl ⟨v, ⟨(({ U with heap := s₂.heap, slotsUsed := s₂.slotsUsed } : State).setVm s₂.vm), Ls ++ L, c0 + mc, s0 + ms⟩,
      ⟨X.admits, X.cas, X.clock, X.frames, X.room, X.hears, X.method, X.code, (X.here.setHeapUsed s₂.heap s₂.slotsUsed).setVm hW'.alike, X.tail, State.WarmedH.trans X.warmed hW', X.limits, X.bytes, X.same.trans (hsame.setVm s.vm)⟩,
      ⟨g, mk, s₂, L, rfl, rfl, hqc, rfl, hL, rfl, rfl⟩, ?_⟩
    show Steps p.tables e below _ ((({ U with heap := s₂.heap, slotsUsed := s₂.slotsUsed } : State).setVm s₂.vm).setTop { g with pc := g.pc + len₂, stack := v.toList ++ g.stack })
    rw [← hs₂]
    exact hsteps
  · obtain ⟨e2, q2, q3, q4, q5, q6⟩ := id hsm
    have e3 : s₂ = ({ (U.calling g mk a).setFrames s₂.frames with heap := s₂.heap, slotsUsed := s₂.slotsUsed } : State).setVm s₂.vm := by
      have : s₂ = ({ s₂ with vm := (U.calling g mk a).vm } : State).setVm s₂.vm := rfl
      rw [e2] at this
      exact this
    have hf₂ : s₂.frames = .throwing q :: .java g :: U.frames.tail := hend
    have hW' : U.WarmedH s₂.vm := hW₂
    have hs₂ : s₂ = ((({ U with heap := s₂.heap, slotsUsed := s₂.slotsUsed } : State).setVm s₂.vm).setTop g).pushFrame (.throwing q) := by
      refine e3.trans ?_
      rw [hf₂, State.calling_eq h.top, State.setFrames_setFrames, State.pushFrame, State.frames_setTop _ hr', State.setTop_of_frames _ hr', State.setFrames_setFrames, hr]
      rfl
    have hsame : U.sameButNew ({ U with heap := s₂.heap, slotsUsed := s₂.slotsUsed } : State) L mc ms := by
      refine ⟨?_, q2, q3, q4, q5, q6⟩
      obtain ⟨t, ht, -⟩ := State.frames_cons hr
      show ({ U with heap := s₂.heap, slotsUsed := s₂.slotsUsed } : State) = { U.setFrames U.frames with heap := s₂.heap, slotsUsed := s₂.slotsUsed }
      rw [State.setFrames_self ht]
    subst hg
    refine Or.inr ⟨q, ⟨(({ U with heap := s₂.heap, slotsUsed := s₂.slotsUsed } : State).setVm s₂.vm), Ls ++ L, c0 + mc, s0 + ms⟩,
      ⟨X.admits, X.cas, X.clock, X.frames, X.room, X.hears, X.method, X.code, (X.here.setHeapUsed s₂.heap s₂.slotsUsed).setVm hW'.alike, X.tail, State.WarmedH.trans X.warmed hW', X.limits, X.bytes, X.same.trans (hsame.setVm s.vm)⟩,
      ⟨g, mk, s₂, L, E, ce, rfl, rfl, hx, hce, hcv, hcl, rfl, hL, rfl, rfl⟩, ?_⟩
    show Steps p.tables e below _ (((({ U with heap := s₂.heap, slotsUsed := s₂.slotsUsed } : State).setVm s₂.vm).setTop g).pushFrame (.throwing q))
    rw [← hs₂]
    exact hsteps
end
variable {p : Program} {l : Launch} {e : Env} {R : Room} {s : State} {m : MethodId} {args : Array Value} {below : List Frame} {meth : Method} {c : Code} {T : State} {H : Heap} {locs : List Loc} {cells slots : Nat}
theorem vx_callVX (X : Stand p l e R s m args below meth c T locs cells slots) (hexec : p.tables.exec = Jvm.exec) {own C : String} {index : Nat} {y : MethodName} {bytes : ByteArray} {maxL : Nat} {ret : Option FieldType} {hh : List (Nat × Nat × Nat × Nat)}
    (hown : s.vm.findClass own = some m.cls) (hlink : (Cond.methodLink own index y).before args s = true) (hinst : (Cond.instanceMethod y).before args s = true) (hsel : (Cond.selects C y y).before args s = true)
    (hcode : (Cond.codeWith y bytes maxL ret hh).before args s = true) (hy : y.cls ≠ "java/lang/invoke/MethodHandle" ∧ y.cls ≠ "java/lang/invoke/VarHandle")
    {W9 : Nat} {Pre : Pt → Array Value → Prop} {Post : Pt → Array Value → Option Value → Pt → Prop} {PostX : Pt → Array Value → Addr → Pt → Prop} (hK : vx_Back l R p e below s args y 3 W9 Pre Post PostX)
    {b : Addr} {cellB : Cell} (hcell : T.heap[b]? = some cellB) (hobj : cellB.vm.isStatics = false) (hcls : s.vm.findClass C = some cellB.cls)
    {g : JFrame} (hg : g.method = m) (hsize : g.locals.size = c.maxLocals) {argsL rest : List Value} (hlen : ∀ sig, parseMethodDescriptor y.desc = some sig → argsL.length = sig.parameters.length)
    (hstack : g.stack = argsL.reverse ++ .ref b :: rest) (hW : 2 * g.monitorRoom + (rest.map fun v => v.category).sum ≤ W9) (hdg : decode c.code g.pc = .ok (.invokevirtual index, 3))
    (hpre : ∀ vm₁, s.WarmedH vm₁ → Pre ⟨T.setVm vm₁, locs, cells, slots⟩ (Value.ref b :: argsL).toArray) :
    (∃ (v : Option Value) (vm₁ : Vm) (B : Pt), s.WarmedH vm₁ ∧ Stand p l e R s m args below meth c B.U B.locs B.cells B.slots ∧ Post ⟨T.setVm vm₁, locs, cells, slots⟩ (Value.ref b :: argsL).toArray v B ∧
      ∀ target, Steps p.tables e below (B.U.setTop { g with pc := g.pc + 3, stack := v.toList ++ rest }) target → Steps p.tables e below (T.setTop g) target) ∨
    (∃ (q : Addr) (vm₁ : Vm) (B : Pt), s.WarmedH vm₁ ∧ Stand p l e R s m args below meth c B.U B.locs B.cells B.slots ∧ PostX ⟨T.setVm vm₁, locs, cells, slots⟩ (Value.ref b :: argsL).toArray q B ∧
      Steps p.tables e below (T.setTop g) ((B.U.setTop { g with stack := rest }).pushFrame (.throwing q))) := by
  obtain ⟨mk, methM, hnamed, hmethM, hstM, habM⟩ := Cond.instanceMethod_spec hinst
  obtain ⟨m8, methM', cM, hn8, hmethM', -, -, -, -, -, -, hsigM⟩ := Cond.codeWith_spec hcode
  cases Option.some.inj (hn8.symm.trans hnamed)
  cases hmethM.symm.trans hmethM'
  obtain ⟨c2, r2, m2, q1, q2, q3, q4, kP, hkP, hkPi⟩ := Cond.selects_spec hsel
  cases hcls.symm.trans q1
  cases (State.methodFound?_of_named hnamed hy).symm.trans q2
  cases hnamed.symm.trans q3
  have hselP : selectMethod e.platform s.vm cellB.cls mk = .method mk := by rw [Launch.admits_selectMethod X.admits]; exact q4
  obtain ⟨vm₁, X₁, hstep₁⟩ := X.invokevirtual hexec hown hlink hnamed hmethM hstM hkP hkPi hy (a := b) (cell := cellB) hcell
    (fun z h => by rw [h] at hobj; cases hobj) hselP hmethM habM hkP hkPi (g := g) hg (argsL := argsL) (rest := rest) (hlen _ hsigM) hstack hdg
  rcases hK m meth c ⟨T.setVm vm₁, locs, cells, slots⟩ { g with stack := rest } (.invokevirtual index) mk (Value.ref b :: argsL).toArray X₁ hg hsize hdg hW (X₁.named hnamed) (hpre vm₁ X₁.warmed) with ⟨v, B, X', hpost, hsteps⟩ | ⟨q, B, X', hpost, hsteps⟩
  · exact Or.inl ⟨v, vm₁, B, X₁.warmed, X', hpost, fun target h => hstep₁ _ fun acts => by rw [doInvoke_state]; exact hsteps.trans h⟩
  · exact Or.inr ⟨q, vm₁, B, X₁.warmed, X', hpost, hstep₁ _ fun acts => by rw [doInvoke_state]; exact hsteps⟩
theorem vx_callSX (X : Stand p l e R s m args below meth c T locs cells slots) (hexec : p.tables.exec = Jvm.exec) {own : String} {index : Nat} {y : MethodName} {bytes : ByteArray} {maxL : Nat} {ret : Option FieldType} {hh : List (Nat × Nat × Nat × Nat)}
    (hown : s.vm.findClass own = some m.cls) (hlink : (Cond.methodLink own index y).before args s = true) (hstat : (Cond.static y).before args s = true) (hinit : (Cond.initialized y.cls).before args s = true)
    (hcode : (Cond.codeWith y bytes maxL ret hh).before args s = true) (hy : y.cls ≠ "java/lang/invoke/MethodHandle" ∧ y.cls ≠ "java/lang/invoke/VarHandle")
    {W9 : Nat} {Pre : Pt → Array Value → Prop} {Post : Pt → Array Value → Option Value → Pt → Prop} {PostX : Pt → Array Value → Addr → Pt → Prop} (hK : vx_Back l R p e below s args y 3 W9 Pre Post PostX)
    {g : JFrame} (hg : g.method = m) (hsize : g.locals.size = c.maxLocals) {argsL rest : List Value} (hlen : ∀ sig, parseMethodDescriptor y.desc = some sig → argsL.length = sig.parameters.length)
    (hstack : g.stack = argsL.reverse ++ rest) (hW : 2 * g.monitorRoom + (rest.map fun v => v.category).sum ≤ W9) (hdg : decode c.code g.pc = .ok (.invokestatic index, 3))
    (hpre : ∀ vm₁, s.WarmedH vm₁ → Pre ⟨T.setVm vm₁, locs, cells, slots⟩ argsL.toArray) :
    (∃ (v : Option Value) (vm₁ : Vm) (B : Pt), s.WarmedH vm₁ ∧ Stand p l e R s m args below meth c B.U B.locs B.cells B.slots ∧ Post ⟨T.setVm vm₁, locs, cells, slots⟩ argsL.toArray v B ∧
      ∀ target, Steps p.tables e below (B.U.setTop { g with pc := g.pc + 3, stack := v.toList ++ rest }) target → Steps p.tables e below (T.setTop g) target) ∨
    (∃ (q : Addr) (vm₁ : Vm) (B : Pt), s.WarmedH vm₁ ∧ Stand p l e R s m args below meth c B.U B.locs B.cells B.slots ∧ PostX ⟨T.setVm vm₁, locs, cells, slots⟩ argsL.toArray q B ∧
      Steps p.tables e below (T.setTop g) ((B.U.setTop { g with stack := rest }).pushFrame (.throwing q))) := by
  obtain ⟨mk, methM, cM, hnamed, hmethM, -, -, -, -, -, -, hsigM⟩ := Cond.codeWith_spec hcode
  have hstatic : methM.isStatic = true := Cond.static_spec hnamed hmethM hstat
  obtain ⟨kP, hkP, -⟩ := className_of_methodNamed hnamed
  have hinitP : kP.init = .initialized := Cond.initialized_spec (findClass_of_methodNamed hnamed) hkP hinit
  obtain ⟨vm₁, X₁, hstep₁⟩ := X.invokestatic hexec hown hlink hnamed hmethM hstatic hkP hinitP hy (g := g) hg (argsL := argsL) (rest := rest) (hlen _ hsigM) hstack hdg
  rcases hK m meth c ⟨T.setVm vm₁, locs, cells, slots⟩ { g with stack := rest } (.invokestatic index) mk argsL.toArray X₁ hg hsize hdg hW (X₁.named hnamed) (hpre vm₁ X₁.warmed) with ⟨v, B, X', hpost, hsteps⟩ | ⟨q, B, X', hpost, hsteps⟩
  · exact Or.inl ⟨v, vm₁, B, X₁.warmed, X', hpost, fun target h => hstep₁ _ fun acts => by rw [doInvoke_state]; exact hsteps.trans h⟩
  · exact Or.inr ⟨q, vm₁, B, X₁.warmed, X', hpost, hstep₁ _ fun acts => by rw [doInvoke_state]; exact hsteps⟩
theorem vx_callVW (X : Stand p l e R s m args below meth c T locs cells slots) (hexec : p.tables.exec = Jvm.exec) {own C : String} {index : Nat} {y : MethodName} {bytes : ByteArray} {maxL : Nat} {ret : Option FieldType} {hh : List (Nat × Nat × Nat × Nat)}
    (hown : s.vm.findClass own = some m.cls) (hlink : (Cond.methodLink own index y).before args s = true) (hinst : (Cond.instanceMethod y).before args s = true) (hsel : (Cond.selects C y y).before args s = true)
    (hcode : (Cond.codeWith y bytes maxL ret hh).before args s = true) (hy : y.cls ≠ "java/lang/invoke/MethodHandle" ∧ y.cls ≠ "java/lang/invoke/VarHandle")
    {W9 : Nat} {Pre : Pt → Array Value → Prop} {Post : Pt → Array Value → Option Value → Pt → Prop} (hK : Back l R p e below s args y 3 W9 Pre Post)
    {b : Addr} {cellB : Cell} (hcell : T.heap[b]? = some cellB) (hobj : cellB.vm.isStatics = false) (hcls : s.vm.findClass C = some cellB.cls)
    {g : JFrame} (hg : g.method = m) (hsize : g.locals.size = c.maxLocals) {argsL rest : List Value} (hlen : ∀ sig, parseMethodDescriptor y.desc = some sig → argsL.length = sig.parameters.length)
    (hstack : g.stack = argsL.reverse ++ .ref b :: rest) (hW : 2 * g.monitorRoom + (rest.map fun v => v.category).sum ≤ W9) (hdg : decode c.code g.pc = .ok (.invokevirtual index, 3))
    (hpre : ∀ vm₁, s.WarmedH vm₁ → Pre ⟨T.setVm vm₁, locs, cells, slots⟩ (Value.ref b :: argsL).toArray) :
    ∃ (v : Option Value) (vm₁ : Vm) (B : Pt), s.WarmedH vm₁ ∧ Stand p l e R s m args below meth c B.U B.locs B.cells B.slots ∧ Post ⟨T.setVm vm₁, locs, cells, slots⟩ (Value.ref b :: argsL).toArray v B ∧
      ∀ target, Steps p.tables e below (B.U.setTop { g with pc := g.pc + 3, stack := v.toList ++ rest }) target → Steps p.tables e below (T.setTop g) target := by
  obtain ⟨mk, methM, hnamed, hmethM, hstM, habM⟩ := Cond.instanceMethod_spec hinst
  obtain ⟨m8, methM', cM, hn8, hmethM', -, -, -, -, -, -, hsigM⟩ := Cond.codeWith_spec hcode
  cases Option.some.inj (hn8.symm.trans hnamed)
  cases hmethM.symm.trans hmethM'
  obtain ⟨c2, r2, m2, q1, q2, q3, q4, kP, hkP, hkPi⟩ := Cond.selects_spec hsel
  cases hcls.symm.trans q1
  cases (State.methodFound?_of_named hnamed hy).symm.trans q2
  cases hnamed.symm.trans q3
  have hselP : selectMethod e.platform s.vm cellB.cls mk = .method mk := by rw [Launch.admits_selectMethod X.admits]; exact q4
  obtain ⟨vm₁, X₁, hstep₁⟩ := X.invokevirtual hexec hown hlink hnamed hmethM hstM hkP hkPi hy (a := b) (cell := cellB) hcell
    (fun z h => by rw [h] at hobj; cases hobj) hselP hmethM habM hkP hkPi (g := g) hg (argsL := argsL) (rest := rest) (hlen _ hsigM) hstack hdg
  obtain ⟨v, B, X', hpost, hsteps⟩ := hK m meth c ⟨T.setVm vm₁, locs, cells, slots⟩ { g with stack := rest } (.invokevirtual index) mk (Value.ref b :: argsL).toArray X₁ hg hsize hdg hW (X₁.named hnamed) (hpre vm₁ X₁.warmed)
  exact ⟨v, vm₁, B, X₁.warmed, X', hpost, fun target h => hstep₁ _ fun acts => by rw [doInvoke_state]; exact hsteps.trans h⟩
abbrev vx_CVW (R : Room) (s : State) (args : Array Value) (own C : String) (index : Nat) (y : MethodName) (bytes : ByteArray) (maxL : Nat) (ret : Option FieldType) (hh : List (Nat × Nat × Nat × Nat)) (ws : List Cond) (rm : Room) (mc ms n : Nat) : Prop :=
  (rm.cells = mc ∧ rm.slots = ms ∧ rm.frames + 1 ≤ R.frames ∧ 8 + (maxL + 11) + rm.locals ≤ R.locals ∧ (∀ w ∈ ws, ∀ (a' : Array Value) (U : State), s.WarmedH U.vm → w.before a' U = true) ∧ Cond.codeWith y bytes maxL ret hh ∈ ws) ∧
  (Cond.codeWith y bytes maxL ret hh).before args s = true ∧ (Cond.initialized y.cls).before args s = true ∧ (y.cls ≠ "java/lang/invoke/MethodHandle" ∧ y.cls ≠ "java/lang/invoke/VarHandle") ∧
  (∀ sig, parseMethodDescriptor y.desc = some sig → n = sig.parameters.length) ∧ (Cond.methodLink own index y).before args s = true ∧ (Cond.instanceMethod y).before args s = true ∧ (Cond.selects C y y).before args s = true
theorem vx_cwVW {own C : String} {index maxL mc ms : Nat} {y : MethodName} {bytes : ByteArray} {ret : Option FieldType} {hh : List (Nat × Nat × Nat × Nat)} {Ts ws ws' : List Cond} {rm : Room} (n : Nat) (ht : ∀ w ∈ Ts, w.before args s = true) (hT : GoodIn Ts (wsV own index C y ws)) (hw : ws = Cond.codeWith y bytes maxL ret hh :: ws') (hrc : rm.cells = mc) (hrs : rm.slots = ms)
    (hd : y.cls = C ∧ y.cls ≠ "java/lang/invoke/MethodHandle" ∧ y.cls ≠ "java/lang/invoke/VarHandle" ∧ (parseMethodDescriptor y.desc).map (fun d => d.parameters.length) = some n) (hR : rm.frames + 1 ≤ R.frames ∧ 8 + (maxL + 11) + rm.locals ≤ R.locals) :
    vx_CVW R s args own C index y bytes maxL ret hh ws rm mc ms n := by
  obtain ⟨hC, hd⟩ := hd
  subst hC
  have ok : ∀ w ∈ wsV own index y.cls y ws, w.before args s = true := fun w h => ht w (hT w h).1
  have hG : GoodIn Ts ws := fun w h => hT w (by unfold wsV; exact List.mem_append_right _ h)
  have hc : Cond.codeWith y bytes maxL ret hh ∈ ws := by rw [hw]; exact List.mem_cons_self
  refine ⟨⟨hrc, hrs, hR.1, hR.2, pay_in ht hG, hc⟩, ht _ (hG _ hc).1, ok _ (by simp [wsV]), ⟨hd.1, hd.2.1⟩, fun sig h => ?_, ok _ (by simp [wsV]), ok _ (by simp [wsV]), ok _ (by simp [wsV])⟩
  have h2 := hd.2.2
  rw [h] at h2
  exact (Option.some.inj h2).symm
theorem vx_runVW {y : MethodName} {bytes cc : ByteArray} {maxL nL mc ms n index : Nat} {ret : Option FieldType} {hh : List (Nat × Nat × Nat × Nat)} {ws : List Cond} {rm : Room} {Pc : Array Value → State → Prop} {Qc : Array Value → State → Outcome → State → Prop} {free : Addr → Prop} {Ts : List Cond} {own C : String} {b : Addr} {As rest : List Value} {g : JFrame}
    (S : CallFix p m c cc nL s args Ts own) (hM : Met l y ws rm Pc Qc mc ms free) (cw : vx_CVW R s args own C index y bytes maxL ret hh ws rm mc ms n) (hp : PreV s H C b Pc As)
    (hg : g.method = m) (hn : As.length = n) (hsize : g.locals.size = nL) (hstack : g.stack = As.reverse ++ .ref b :: rest) (hW : 2 * g.monitorRoom + (rest.map fun v => v.category).sum ≤ 8) (hdg : decode cc g.pc = .ok (.invokevirtual index, 3)) (hf : cells + mc ≤ R.cells ∧ slots + ms ≤ R.slots) :
    va_Run p l e R s m args below meth c H locs cells slots mc ms g rest (Qc (Value.ref b :: As).toArray) free := by
  obtain ⟨⟨hrc, hrs, hfr, hlo, hws, hcw⟩, hcode, hini, hy, hlen, hl, hin, hse⟩ := cw
  have hK : Back l R p e below s args y 3 8 (PreOf R mc ms Pc) (PostOf Qc mc ms free) := va_backW (hh := hh) (bytes := bytes) (maxL := maxL) (ret := ret) hM hp.1 hrc hrs hfr hlo hws hcw (fun a' U hW => word_at hW (Or.inl (by first | rfl | simp [Cond.onTables, Cond.keeps, Cond.steady])) hini)
  obtain ⟨hx, hb, hml, ho, -⟩ := S
  obtain ⟨-, ⟨cellB, hcB, hoB, hclB⟩, hPc⟩ := hp
  intro T hT X
  obtain ⟨v, vm₁, ⟨U', l2, c2, s2⟩, hW₁, X', ⟨g', mk, t, L, e1, e2, hq, h1, hL, h2, h3⟩, st⟩ := vx_callVW X hx (C := C) (hh := hh) (bytes := bytes) (maxL := maxL) (ret := ret) ho hl hin hse hcode hy hK (by rw [hT]; exact hcB) hoB hclB hg (hsize.trans hml.symm) (argsL := As) (rest := rest) (fun sig h => hn.trans (hlen sig h)) hstack hW (by rw [hb]; exact hdg)
    (fun vm₁ hW₁ => ⟨hf.1, hf.2, hPc (T.setVm vm₁) hT hW₁⟩)
  dsimp only [Pt.U, Pt.locs, Pt.cells, Pt.slots] at X' e1 e2 h1 h2 h3 st
  subst h1; subst h2; subst h3
  exact ⟨v, (T.setVm vm₁).calling g' mk (Value.ref b :: As).toArray, t, U', L, hT, X', hL, e1, e2, hq, st⟩
section
variable {y : MethodName} {bytes cc : ByteArray} {maxL nL mc ms n index : Nat} {ret : Option FieldType} {ws : List Cond} {rm : Room} {Pc : Array Value → State → Prop} {Qc : Array Value → State → Outcome → State → Prop} {XC : String → State → State → Prop} {free : Addr → Prop} {Ts : List Cond} {own C : String} {b : Addr} {As rest : List Value} {g : JFrame}
theorem vx_runVX {hh : List (Nat × Nat × Nat × Nat)} (S : CallFix p m c cc nL s args Ts own) (hM : vx_Met l y ws rm Pc Qc XC mc ms free) (cw : vx_CVW R s args own C index y bytes maxL ret hh ws rm mc ms n) (hp : PreV s H C b Pc As)
    (hg : g.method = m) (hn : As.length = n) (hsize : g.locals.size = nL) (hstack : g.stack = As.reverse ++ .ref b :: rest) (hW : 2 * g.monitorRoom + (rest.map fun v => v.category).sum ≤ 8) (hdg : decode cc g.pc = .ok (.invokevirtual index, 3)) (hf : cells + mc ≤ R.cells ∧ slots + ms ≤ R.slots) :
    vx_Run p l e R s m args below meth c H locs cells slots mc ms g rest (Qc (Value.ref b :: As).toArray) XC free := by
  obtain ⟨⟨hrc, hrs, hfr, hlo, hws, hcw⟩, hcode, hini, hy, hlen, hl, hin, hse⟩ := cw
  have hK : vx_Back l R p e below s args y 3 8 (PreOf R mc ms Pc) (PostOf Qc mc ms free) (vx_Post XC mc ms free) := vx_backW (hh := hh) (bytes := bytes) (maxL := maxL) (ret := ret) hM hp.1 hrc hrs hfr hlo hws hcw (fun a' U hW => word_at hW (Or.inl (by first | rfl | simp [Cond.onTables, Cond.keeps, Cond.steady])) hini)
  obtain ⟨hx, hb, hml, ho, -⟩ := S
  obtain ⟨-, ⟨cellB, hcB, hoB, hclB⟩, hPc⟩ := hp
  intro T hT X
  rcases vx_callVX X hx (C := C) (hh := hh) (bytes := bytes) (maxL := maxL) (ret := ret) ho hl hin hse hcode hy hK (by rw [hT]; exact hcB) hoB hclB hg (hsize.trans hml.symm) (argsL := As) (rest := rest) (fun sig h => hn.trans (hlen sig h)) hstack hW (by rw [hb]; exact hdg)
    (fun vm₁ hW₁ => ⟨hf.1, hf.2, hPc (T.setVm vm₁) hT hW₁⟩) with ⟨v, vm₁, ⟨U', l2, c2, s2⟩, hW₁, X', ⟨g', mk, t, L, e1, e2, hq, h1, hL, h2, h3⟩, st⟩ | ⟨q, vm₁, ⟨U', l2, c2, s2⟩, hW₁, X', ⟨g', mk, t, L, E, ce, e1, e2, hq, hce, hcv, hcl, h1, hL, h2, h3⟩, st⟩
  · dsimp only [Pt.U, Pt.locs, Pt.cells, Pt.slots] at X' e1 e2 h1 h2 h3 st
    subst h1; subst h2; subst h3
    exact Or.inl ⟨v, (T.setVm vm₁).calling g' mk (Value.ref b :: As).toArray, t, U', L, hT, X', hL, e1, e2, hq, st⟩
  · dsimp only [Pt.U, Pt.locs, Pt.cells, Pt.slots] at X' e1 e2 h1 h2 h3 st hcl
    subst h1; subst h2; subst h3
    exact Or.inr ⟨q, (T.setVm vm₁).calling g' mk (Value.ref b :: As).toArray, t, U', L, E, ce, hT, X', hL, e1, e2, hq, hce, hcv, vx_cls hW₁ hcl, st⟩
theorem vx_runSX {hh : List (Nat × Nat × Nat × Nat)} (S : CallFix p m c cc nL s args Ts own) (hM : vx_Met l y ws rm Pc Qc XC mc ms free) (cw : vx_CSW R s args own index y bytes maxL ret hh ws rm mc ms n) (hp : PreS s H Pc As)
    (hg : g.method = m) (hn : As.length = n) (hsize : g.locals.size = nL) (hstack : g.stack = As.reverse ++ rest) (hW : 2 * g.monitorRoom + (rest.map fun v => v.category).sum ≤ 8) (hdg : decode cc g.pc = .ok (.invokestatic index, 3)) (hf : cells + mc ≤ R.cells ∧ slots + ms ≤ R.slots) :
    vx_Run p l e R s m args below meth c H locs cells slots mc ms g rest (Qc As.toArray) XC free := by
  obtain ⟨⟨hrc, hrs, hfr, hlo, hws, hcw⟩, hcode, hini, hy, hlen, hl, hstt⟩ := cw
  have hK : vx_Back l R p e below s args y 3 8 (PreOf R mc ms Pc) (PostOf Qc mc ms free) (vx_Post XC mc ms free) := vx_backW (hh := hh) (bytes := bytes) (maxL := maxL) (ret := ret) hM hp.1 hrc hrs hfr hlo hws hcw (fun a' U hW => word_at hW (Or.inl (by first | rfl | simp [Cond.onTables, Cond.keeps, Cond.steady])) hini)
  obtain ⟨hx, hb, hml, ho, -⟩ := S
  intro T hT X
  rcases vx_callSX X hx (hh := hh) (bytes := bytes) (maxL := maxL) (ret := ret) ho hl hstt hini hcode hy hK hg (hsize.trans hml.symm) (argsL := As) (rest := rest) (fun sig h => hn.trans (hlen sig h)) hstack hW (by rw [hb]; exact hdg)
    (fun vm₁ hW₁ => ⟨hf.1, hf.2, hp.2 (T.setVm vm₁) hT hW₁⟩) with ⟨v, vm₁, ⟨U', l2, c2, s2⟩, hW₁, X', ⟨g', mk, t, L, e1, e2, hq, h1, hL, h2, h3⟩, st⟩ | ⟨q, vm₁, ⟨U', l2, c2, s2⟩, hW₁, X', ⟨g', mk, t, L, E, ce, e1, e2, hq, hce, hcv, hcl, h1, hL, h2, h3⟩, st⟩
  · dsimp only [Pt.U, Pt.locs, Pt.cells, Pt.slots] at X' e1 e2 h1 h2 h3 st
    subst h1; subst h2; subst h3
    exact Or.inl ⟨v, (T.setVm vm₁).calling g' mk As.toArray, t, U', L, hT, X', hL, e1, e2, hq, st⟩
  · dsimp only [Pt.U, Pt.locs, Pt.cells, Pt.slots] at X' e1 e2 h1 h2 h3 st hcl
    subst h1; subst h2; subst h3
    exact Or.inr ⟨q, (T.setVm vm₁).calling g' mk As.toArray, t, U', L, E, ce, hT, X', hL, e1, e2, hq, hce, hcv, vx_cls hW₁ hcl, st⟩
end
end VXH
theorem vx_ofWH {l : Launch} {y : MethodName} {ws ws' : List Cond} {rm : Room} {Pc : Array Value → State → Prop} {Qc : Array Value → State → Outcome → State → Prop} {XC : String → State → State → Prop} {mc ms : Nat} {free : Addr → Prop} {cc : ByteArray} {maxL : Nat} {ret : Option FieldType} {hh : List (Nat × Nat × Nat × Nat)}
    (hy : plainName y.cls = true) (hw : ws = Cond.codeWith y cc maxL ret hh :: ws')
    (body : ∀ p e s m args below meth c s₁, BodyLoose p l y (headSpec ws rm) cc maxL ret e s m args below meth c s₁ → c.maxLocals = maxL → Pc args s →
      W p l e (headSpec ws rm).room s m args below meth c s.heap [] 0 0 (vx_MQ below Qc XC args s mc ms free) (entryFrame m args maxL)) : vx_Met l y ws rm Pc Qc XC mc ms free := by
  refine MetFree.of_bodyS (code := cc) (maxLocals := maxL) (ret := ret) hy ?_ ?_
  · intro args s m h hn
    obtain ⟨m9, meth, c, hn9, h1, h2, h3, h4, -, h5, h6, -⟩ := Cond.codeWith_spec (atoms_spec (ws := ws) h _ (by rw [hw]; exact List.mem_cons_self))
    cases hn.symm.trans hn9
    exact ⟨meth, c, h1, h2, h3, h4, h5, h6⟩
  · intro p e s m args below meth c s₁ B hml hP _
    have hh0 : s₁.heap = s.heap := by rw [B.state]; rfl
    obtain ⟨t, a1, o, b1, b2, b3⟩ := body p e s m args below meth c s₁ B hml hP s₁ hh0 (Stand.of_body B)
    exact ⟨t, o, a1, b1, b2, b3⟩
/-! ===== END ===== -/
end
section
def RX0 : String := "RareFaults$Corrections"
def TX0 : u_T := fun k => match k with
  | _ => ("RareFaults$Corrections", "greatestBySum", "[D", true)
def tyX0 : Nat → FieldType := fun k => match k with
  | _ => .array .double
abbrev wsX00 : List Cond := u_ws RX0 TX0 1
theorem nmX0 : ∀ a, a < 1 → ∀ b, b < 1 → a ≠ b → (TX0 a).2.1 ≠ (TX0 b).2.1 := by decide +kernel
theorem tyX0_ok : ∀ k, k < 1 → parseFieldDescriptor (TX0 k).2.2.1 = some (tyX0 k) := by decide +kernel
abbrev cX0_init : ByteArray := prog_2_method_1_code
def yX0_init : MethodName := ⟨RX0, "<init>", "()V"⟩
abbrev cX0_fill : ByteArray := prog_2_method_2_code
def yX0_fill : MethodName := ⟨RX0, "fill", "(LRareFaults$Plant;)V"⟩
abbrev cX0_addPartOf : ByteArray := prog_2_method_3_code
def yX0_addPartOf : MethodName := ⟨RX0, "addPartOf", "(LRareFaults$Plant;I)V"⟩
abbrev cX0_correctionOf : ByteArray := prog_2_method_4_code
def yX0_correctionOf : MethodName := ⟨RX0, "correctionOf", "(I)D"⟩
abbrev cX0_greatestFrom : ByteArray := prog_2_method_5_code
def yX0_greatestFrom : MethodName := ⟨RX0, "greatestFrom", "(I)D"⟩
def RX1 : String := "RareFaults$Counting"
def TX1 : u_T := fun k => match k with
  | _ => ("RareFaults$Counting", "ways", "[J", true)
def tyX1 : Nat → FieldType := fun k => match k with
  | _ => .array .long
abbrev wsX10 : List Cond := u_ws RX1 TX1 1
theorem nmX1 : ∀ a, a < 1 → ∀ b, b < 1 → a ≠ b → (TX1 a).2.1 ≠ (TX1 b).2.1 := by decide +kernel
theorem tyX1_ok : ∀ k, k < 1 → parseFieldDescriptor (TX1 k).2.2.1 = some (tyX1 k) := by decide +kernel
abbrev cX1_init : ByteArray := prog_3_method_1_code
def yX1_init : MethodName := ⟨RX1, "<init>", "()V"⟩
abbrev cX1_fill : ByteArray := prog_3_method_2_code
def yX1_fill : MethodName := ⟨RX1, "fill", "(LRareFaults$Plant;I)V"⟩
abbrev cX1_addPartOf : ByteArray := prog_3_method_3_code
def yX1_addPartOf : MethodName := ⟨RX1, "addPartOf", "(LRareFaults$Plant;I)V"⟩
abbrev cX1_waysOf : ByteArray := prog_3_method_4_code
def yX1_waysOf : MethodName := ⟨RX1, "waysOf", "(I)J"⟩
abbrev cX1_waysFrom : ByteArray := prog_3_method_5_code
def yX1_waysFrom : MethodName := ⟨RX1, "waysFrom", "(I)J"⟩
abbrev cX1_oddsFrom : ByteArray := prog_3_method_6_code
def yX1_oddsFrom : MethodName := ⟨RX1, "oddsFrom", "(I)D"⟩
def RX2 : String := "RareFaults$History"
def TX2 : u_T := fun k => match k with
  | 0 => ("RareFaults$History", "places", "[LRareFaults$Plant;", true)
  | 1 => ("RareFaults$History", "next", "I", false)
  | _ => ("RareFaults$History", "number", "I", false)
def tyX2 : Nat → FieldType := fun k => match k with
  | 0 => .array (.object "RareFaults$Plant")
  | 1 => .int
  | _ => .int
abbrev wsX20 : List Cond := u_ws RX2 TX2 3
theorem nmX2 : ∀ a, a < 3 → ∀ b, b < 3 → a ≠ b → (TX2 a).2.1 ≠ (TX2 b).2.1 := by decide +kernel
theorem tyX2_ok : ∀ k, k < 3 → parseFieldDescriptor (TX2 k).2.2.1 = some (tyX2 k) := by decide +kernel
abbrev cX2_init : ByteArray := prog_4_method_1_code
def yX2_init : MethodName := ⟨RX2, "<init>", "()V"⟩
abbrev cX2_save : ByteArray := prog_4_method_2_code
def yX2_save : MethodName := ⟨RX2, "save", "(LRareFaults$Plant;)V"⟩
abbrev cX2_restore : ByteArray := prog_4_method_3_code
def yX2_restore : MethodName := ⟨RX2, "restore", "(LRareFaults$Plant;)V"⟩
def RX3 : String := "RareFaults$Likeliest"
def TX3 : u_T := fun k => match k with
  | _ => ("RareFaults$Likeliest", "most", "[I", true)
def tyX3 : Nat → FieldType := fun k => match k with
  | _ => .array .int
abbrev wsX30 : List Cond := u_ws RX3 TX3 1
theorem nmX3 : ∀ a, a < 1 → ∀ b, b < 1 → a ≠ b → (TX3 a).2.1 ≠ (TX3 b).2.1 := by decide +kernel
theorem tyX3_ok : ∀ k, k < 1 → parseFieldDescriptor (TX3 k).2.2.1 = some (tyX3 k) := by decide +kernel
abbrev cX3_init : ByteArray := prog_5_method_1_code
def yX3_init : MethodName := ⟨RX3, "<init>", "()V"⟩
abbrev cX3_fill : ByteArray := prog_5_method_2_code
def yX3_fill : MethodName := ⟨RX3, "fill", "(LRareFaults$Plant;)V"⟩
abbrev cX3_waysFor : ByteArray := prog_5_method_3_code
def yX3_waysFor : MethodName := ⟨RX3, "waysFor", "(I)I"⟩
abbrev cX3_loadOf : ByteArray := prog_5_method_4_code
def yX3_loadOf : MethodName := ⟨RX3, "loadOf", "(LRareFaults$Plant;I)I"⟩
abbrev cX3_firstLoad : ByteArray := prog_5_method_5_code
def yX3_firstLoad : MethodName := ⟨RX3, "firstLoad", "(LRareFaults$Plant;II)I"⟩
abbrev cX3_mostOfLoads : ByteArray := prog_5_method_6_code
def yX3_mostOfLoads : MethodName := ⟨RX3, "mostOfLoads", "(LRareFaults$Plant;II)I"⟩
abbrev cX3_waysWith : ByteArray := prog_5_method_7_code
def yX3_waysWith : MethodName := ⟨RX3, "waysWith", "(LRareFaults$Plant;III)I"⟩
abbrev cX3_getMost : ByteArray := prog_5_method_8_code
def yX3_getMost : MethodName := ⟨RX3, "getMost", "(II)I"⟩
abbrev cX3_setMost : ByteArray := prog_5_method_9_code
def yX3_setMost : MethodName := ⟨RX3, "setMost", "(III)V"⟩
def RX4 : String := "RareFaults$Plant"
def TX4 : u_T := fun k => match k with
  | 0 => ("RareFaults$Plant", "weights", "LRareFaults$Table;", true)
  | 1 => ("RareFaults$Plant", "tilted", "LRareFaults$Table;", true)
  | 2 => ("RareFaults$Plant", "samples", "LRareFaults$Samples;", true)
  | 3 => ("RareFaults$Plant", "parts", "I", false)
  | 4 => ("RareFaults$Plant", "limit", "I", false)
  | _ => ("RareFaults$Plant", "seed", "I", false)
def tyX4 : Nat → FieldType := fun k => match k with
  | 0 => .object "RareFaults$Table"
  | 1 => .object "RareFaults$Table"
  | 2 => .object "RareFaults$Samples"
  | 3 => .int
  | 4 => .int
  | _ => .int
abbrev wsX40 : List Cond := u_ws RX4 TX4 6
theorem nmX4 : ∀ a, a < 6 → ∀ b, b < 6 → a ≠ b → (TX4 a).2.1 ≠ (TX4 b).2.1 := by decide +kernel
theorem tyX4_ok : ∀ k, k < 6 → parseFieldDescriptor (TX4 k).2.2.1 = some (tyX4 k) := by decide +kernel
abbrev cX4_init : ByteArray := prog_6_method_1_code
def yX4_init : MethodName := ⟨RX4, "<init>", "()V"⟩
abbrev cX4_addEmptyPart : ByteArray := prog_6_method_2_code
def yX4_addEmptyPart : MethodName := ⟨RX4, "addEmptyPart", "()I"⟩
abbrev cX4_dropPart : ByteArray := prog_6_method_3_code
def yX4_dropPart : MethodName := ⟨RX4, "dropPart", "(I)V"⟩
abbrev cX4_setBothWeights : ByteArray := prog_6_method_4_code
def yX4_setBothWeights : MethodName := ⟨RX4, "setBothWeights", "(III)V"⟩
abbrev cX4_setWeight : ByteArray := prog_6_method_5_code
def yX4_setWeight : MethodName := ⟨RX4, "setWeight", "(III)V"⟩
abbrev cX4_setTilted : ByteArray := prog_6_method_6_code
def yX4_setTilted : MethodName := ⟨RX4, "setTilted", "(III)V"⟩
abbrev cX4_tiltBy : ByteArray := prog_6_method_7_code
def yX4_tiltBy : MethodName := ⟨RX4, "tiltBy", "(I)V"⟩
abbrev cX4_setLimit : ByteArray := prog_6_method_8_code
def yX4_setLimit : MethodName := ⟨RX4, "setLimit", "(I)V"⟩
abbrev cX4_sumOfTiltedTotals : ByteArray := prog_6_method_9_code
def yX4_sumOfTiltedTotals : MethodName := ⟨RX4, "sumOfTiltedTotals", "()I"⟩
abbrev cX4_leastSum : ByteArray := prog_6_method_10_code
def yX4_leastSum : MethodName := ⟨RX4, "leastSum", "()I"⟩
abbrev cX4_greatestSum : ByteArray := prog_6_method_11_code
def yX4_greatestSum : MethodName := ⟨RX4, "greatestSum", "()I"⟩
abbrev cX4_drawRow : ByteArray := prog_6_method_12_code
def yX4_drawRow : MethodName := ⟨RX4, "drawRow", "()V"⟩
abbrev cX4_drawLoad : ByteArray := prog_6_method_13_code
def yX4_drawLoad : MethodName := ⟨RX4, "drawLoad", "(I)I"⟩
abbrev cX4_corrected : ByteArray := prog_6_method_14_code
def yX4_corrected : MethodName := ⟨RX4, "corrected", "(DII)D"⟩
abbrev cX4_copyFrom : ByteArray := prog_6_method_15_code
def yX4_copyFrom : MethodName := ⟨RX4, "copyFrom", "(LRareFaults$Plant;)V"⟩
def RX5 : String := "RareFaults$Samples"
def TX5 : u_T := fun k => match k with
  | 0 => ("RareFaults$Samples", "latestLoads", "[I", true)
  | 1 => ("RareFaults$Samples", "number", "I", false)
  | 2 => ("RareFaults$Samples", "faults", "I", false)
  | 3 => ("RareFaults$Samples", "faultSum", "D", false)
  | 4 => ("RareFaults$Samples", "sum", "D", false)
  | 5 => ("RareFaults$Samples", "squareSum", "D", false)
  | _ => ("RareFaults$Samples", "latestCorrection", "D", false)
def tyX5 : Nat → FieldType := fun k => match k with
  | 0 => .array .int
  | 1 => .int
  | 2 => .int
  | 3 => .double
  | 4 => .double
  | 5 => .double
  | _ => .double
abbrev wsX50 : List Cond := u_ws RX5 TX5 7
theorem nmX5 : ∀ a, a < 7 → ∀ b, b < 7 → a ≠ b → (TX5 a).2.1 ≠ (TX5 b).2.1 := by decide +kernel
theorem tyX5_ok : ∀ k, k < 7 → parseFieldDescriptor (TX5 k).2.2.1 = some (tyX5 k) := by decide +kernel
abbrev cX5_init : ByteArray := prog_7_method_1_code
def yX5_init : MethodName := ⟨RX5, "<init>", "()V"⟩
abbrev cX5_clear : ByteArray := prog_7_method_2_code
def yX5_clear : MethodName := ⟨RX5, "clear", "()V"⟩
abbrev cX5_setLatestLoad : ByteArray := prog_7_method_3_code
def yX5_setLatestLoad : MethodName := ⟨RX5, "setLatestLoad", "(II)V"⟩
abbrev cX5_latestLoadOf : ByteArray := prog_7_method_4_code
def yX5_latestLoadOf : MethodName := ⟨RX5, "latestLoadOf", "(I)I"⟩
abbrev cX5_add : ByteArray := prog_7_method_5_code
def yX5_add : MethodName := ⟨RX5, "add", "(DZ)V"⟩
abbrev cX5_shareOf : ByteArray := prog_7_method_6_code
def yX5_shareOf : MethodName := ⟨RX5, "shareOf", "(D)D"⟩
abbrev cX5_effectiveNumber : ByteArray := prog_7_method_7_code
def yX5_effectiveNumber : MethodName := ⟨RX5, "effectiveNumber", "()D"⟩
abbrev cX5_copyFrom : ByteArray := prog_7_method_8_code
def yX5_copyFrom : MethodName := ⟨RX5, "copyFrom", "(LRareFaults$Samples;)V"⟩
def RX6 : String := "RareFaults$Syntax"
def TX6 : u_T := fun k => match k with
  | 0 => ("RareFaults$Syntax", "parts", "I", false)
  | 1 => ("RareFaults$Syntax", "digits", "I", false)
  | _ => ("RareFaults$Syntax", "isAboveZero", "Z", false)
def tyX6 : Nat → FieldType := fun k => match k with
  | 0 => .int
  | 1 => .int
  | _ => .boolean
abbrev wsX60 : List Cond := u_ws RX6 TX6 3
theorem nmX6 : ∀ a, a < 3 → ∀ b, b < 3 → a ≠ b → (TX6 a).2.1 ≠ (TX6 b).2.1 := by decide +kernel
theorem tyX6_ok : ∀ k, k < 3 → parseFieldDescriptor (TX6 k).2.2.1 = some (tyX6 k) := by decide +kernel
abbrev cX6_init : ByteArray := prog_8_method_1_code
def yX6_init : MethodName := ⟨RX6, "<init>", "()V"⟩
abbrev cX6_read : ByteArray := prog_8_method_2_code
def yX6_read : MethodName := ⟨RX6, "read", "(LRareFaults$Text;)I"⟩
abbrev cX6_isPartComplete : ByteArray := prog_8_method_3_code
def yX6_isPartComplete : MethodName := ⟨RX6, "isPartComplete", "()Z"⟩
abbrev cX6_accepts : ByteArray := prog_8_method_4_code
def yX6_accepts : MethodName := ⟨RX6, "accepts", "(I)Z"⟩
abbrev cX6_acceptsNextPart : ByteArray := prog_8_method_5_code
def yX6_acceptsNextPart : MethodName := ⟨RX6, "acceptsNextPart", "()Z"⟩
abbrev cX6_acceptsDigit : ByteArray := prog_8_method_6_code
def yX6_acceptsDigit : MethodName := ⟨RX6, "acceptsDigit", "(I)Z"⟩
def RX7 : String := "RareFaults$Table"
def TX7 : u_T := fun k => match k with
  | _ => ("RareFaults$Table", "cells", "[I", true)
def tyX7 : Nat → FieldType := fun k => match k with
  | _ => .array .int
abbrev wsX70 : List Cond := u_ws RX7 TX7 1
theorem nmX7 : ∀ a, a < 1 → ∀ b, b < 1 → a ≠ b → (TX7 a).2.1 ≠ (TX7 b).2.1 := by decide +kernel
theorem tyX7_ok : ∀ k, k < 1 → parseFieldDescriptor (TX7 k).2.2.1 = some (tyX7 k) := by decide +kernel
abbrev cX7_init : ByteArray := prog_9_method_1_code
def yX7_init : MethodName := ⟨RX7, "<init>", "()V"⟩
abbrev cX7_get : ByteArray := prog_9_method_2_code
def yX7_get : MethodName := ⟨RX7, "get", "(II)I"⟩
abbrev cX7_set : ByteArray := prog_9_method_3_code
def yX7_set : MethodName := ⟨RX7, "set", "(III)V"⟩
abbrev cX7_totalOf : ByteArray := prog_9_method_4_code
def yX7_totalOf : MethodName := ⟨RX7, "totalOf", "(I)I"⟩
abbrev cX7_momentOf : ByteArray := prog_9_method_5_code
def yX7_momentOf : MethodName := ⟨RX7, "momentOf", "(I)I"⟩
abbrev cX7_leastLoadOf : ByteArray := prog_9_method_6_code
def yX7_leastLoadOf : MethodName := ⟨RX7, "leastLoadOf", "(I)I"⟩
abbrev cX7_greatestLoadOf : ByteArray := prog_9_method_7_code
def yX7_greatestLoadOf : MethodName := ⟨RX7, "greatestLoadOf", "(I)I"⟩
abbrev cX7_dropRow : ByteArray := prog_9_method_8_code
def yX7_dropRow : MethodName := ⟨RX7, "dropRow", "(I)V"⟩
abbrev cX7_copyFrom : ByteArray := prog_9_method_9_code
def yX7_copyFrom : MethodName := ⟨RX7, "copyFrom", "(LRareFaults$Table;)V"⟩
def RX8 : String := "RareFaults$Text"
def TX8 : u_T := fun k => match k with
  | 0 => ("RareFaults$Text", "codes", "[I", true)
  | _ => ("RareFaults$Text", "length", "I", false)
def tyX8 : Nat → FieldType := fun k => match k with
  | 0 => .array .int
  | _ => .int
abbrev wsX80 : List Cond := u_ws RX8 TX8 2
theorem nmX8 : ∀ a, a < 2 → ∀ b, b < 2 → a ≠ b → (TX8 a).2.1 ≠ (TX8 b).2.1 := by decide +kernel
theorem tyX8_ok : ∀ k, k < 2 → parseFieldDescriptor (TX8 k).2.2.1 = some (tyX8 k) := by decide +kernel
abbrev cX8_init : ByteArray := prog_10_method_1_code
def yX8_init : MethodName := ⟨RX8, "<init>", "()V"⟩
abbrev cX8_add : ByteArray := prog_10_method_2_code
def yX8_add : MethodName := ⟨RX8, "add", "(I)V"⟩
abbrev cX8_clear : ByteArray := prog_10_method_3_code
def yX8_clear : MethodName := ⟨RX8, "clear", "()V"⟩
abbrev cX8_codeAt : ByteArray := prog_10_method_4_code
def yX8_codeAt : MethodName := ⟨RX8, "codeAt", "(I)I"⟩
abbrev cX8_addPartsTo : ByteArray := prog_10_method_5_code
def yX8_addPartsTo : MethodName := ⟨RX8, "addPartsTo", "(LRareFaults$Plant;)V"⟩
def RX9 : String := "RareFaults"
def TX9 : u_T := fun k => match k with
  | 0 => ("RareFaults", "plant", "LRareFaults$Plant;", true)
  | 1 => ("RareFaults", "history", "LRareFaults$History;", true)
  | 2 => ("RareFaults", "buffer", "LRareFaults$Text;", true)
  | 3 => ("RareFaults", "counting", "LRareFaults$Counting;", true)
  | 4 => ("RareFaults", "likeliestFault", "LRareFaults$Likeliest;", true)
  | _ => ("RareFaults", "corrections", "LRareFaults$Corrections;", true)
def tyX9 : Nat → FieldType := fun k => match k with
  | 0 => .object "RareFaults$Plant"
  | 1 => .object "RareFaults$History"
  | 2 => .object "RareFaults$Text"
  | 3 => .object "RareFaults$Counting"
  | 4 => .object "RareFaults$Likeliest"
  | _ => .object "RareFaults$Corrections"
abbrev wsX90 : List Cond := u_ws RX9 TX9 6
theorem nmX9 : ∀ a, a < 6 → ∀ b, b < 6 → a ≠ b → (TX9 a).2.1 ≠ (TX9 b).2.1 := by decide +kernel
theorem tyX9_ok : ∀ k, k < 6 → parseFieldDescriptor (TX9 k).2.2.1 = some (tyX9 k) := by decide +kernel
abbrev cX9_init : ByteArray := prog_1_method_1_code
def yX9_init : MethodName := ⟨RX9, "<init>", "()V"⟩
abbrev cX9_addPart : ByteArray := prog_1_method_2_code
def yX9_addPart : MethodName := ⟨RX9, "addPart", "(I)I"⟩
abbrev cX9_removePart : ByteArray := prog_1_method_3_code
def yX9_removePart : MethodName := ⟨RX9, "removePart", "(I)I"⟩
abbrev cX9_weigh : ByteArray := prog_1_method_4_code
def yX9_weigh : MethodName := ⟨RX9, "weigh", "(III)I"⟩
abbrev cX9_tilt : ByteArray := prog_1_method_5_code
def yX9_tilt : MethodName := ⟨RX9, "tilt", "(III)I"⟩
abbrev cX9_tiltAll : ByteArray := prog_1_method_6_code
def yX9_tiltAll : MethodName := ⟨RX9, "tiltAll", "(I)I"⟩
abbrev cX9_limit : ByteArray := prog_1_method_7_code
def yX9_limit : MethodName := ⟨RX9, "limit", "(I)I"⟩
abbrev cX9_seed : ByteArray := prog_1_method_8_code
def yX9_seed : MethodName := ⟨RX9, "seed", "(I)I"⟩
abbrev cX9_draw : ByteArray := prog_1_method_9_code
def yX9_draw : MethodName := ⟨RX9, "draw", "(I)I"⟩
abbrev cX9_forget : ByteArray := prog_1_method_10_code
def yX9_forget : MethodName := ⟨RX9, "forget", "()I"⟩
abbrev cX9_append : ByteArray := prog_1_method_11_code
def yX9_append : MethodName := ⟨RX9, "append", "(I)I"⟩
abbrev cX9_clearBuffer : ByteArray := prog_1_method_12_code
def yX9_clearBuffer : MethodName := ⟨RX9, "clearBuffer", "()I"⟩
abbrev cX9_firstError : ByteArray := prog_1_method_13_code
def yX9_firstError : MethodName := ⟨RX9, "firstError", "()I"⟩
abbrev cX9_addAll : ByteArray := prog_1_method_14_code
def yX9_addAll : MethodName := ⟨RX9, "addAll", "()I"⟩
abbrev cX9_undo : ByteArray := prog_1_method_15_code
def yX9_undo : MethodName := ⟨RX9, "undo", "()I"⟩
abbrev cX9_part : ByteArray := prog_1_method_16_code
def yX9_part : MethodName := ⟨RX9, "part", "(II)I"⟩
abbrev cX9_weight : ByteArray := prog_1_method_17_code
def yX9_weight : MethodName := ⟨RX9, "weight", "(IIZ)I"⟩
abbrev cX9_ways : ByteArray := prog_1_method_18_code
def yX9_ways : MethodName := ⟨RX9, "ways", "(IZ)J"⟩
abbrev cX9_likeliest : ByteArray := prog_1_method_19_code
def yX9_likeliest : MethodName := ⟨RX9, "likeliest", "(I)I"⟩
abbrev cX9_count : ByteArray := prog_1_method_20_code
def yX9_count : MethodName := ⟨RX9, "count", "(I)I"⟩
abbrev cX9_measure : ByteArray := prog_1_method_21_code
def yX9_measure : MethodName := ⟨RX9, "measure", "(I)D"⟩
abbrev cX9_ifLimit : ByteArray := prog_1_method_22_code
def yX9_ifLimit : MethodName := ⟨RX9, "ifLimit", "(I)D"⟩
abbrev cX9_limitFor : ByteArray := prog_1_method_23_code
def yX9_limitFor : MethodName := ⟨RX9, "limitFor", "(I)I"⟩
abbrev cX9_greatest : ByteArray := prog_1_method_24_code
def yX9_greatest : MethodName := ⟨RX9, "greatest", "(Z)D"⟩
abbrev cX9_slightest : ByteArray := prog_1_method_25_code
def yX9_slightest : MethodName := ⟨RX9, "slightest", "()I"⟩
abbrev cX9_digest : ByteArray := prog_1_method_26_code
def yX9_digest : MethodName := ⟨RX9, "digest", "()J"⟩
abbrev cX9_hashWithPart : ByteArray := prog_1_method_27_code
def yX9_hashWithPart : MethodName := ⟨RX9, "hashWithPart", "(JI)J"⟩
abbrev cX9_hashWith : ByteArray := prog_1_method_28_code
def yX9_hashWith : MethodName := ⟨RX9, "hashWith", "(JJ)J"⟩
abbrev cX9_bitsOf : ByteArray := prog_1_method_29_code
def yX9_bitsOf : MethodName := ⟨RX9, "bitsOf", "(D)J"⟩
abbrev cX9_oddsFor : ByteArray := prog_1_method_30_code
def yX9_oddsFor : MethodName := ⟨RX9, "oddsFor", "(II)D"⟩
abbrev cX9_requirePart : ByteArray := prog_1_method_31_code
def yX9_requirePart : MethodName := ⟨RX9, "requirePart", "(I)V"⟩
abbrev cX9_requireLoad : ByteArray := prog_1_method_32_code
def yX9_requireLoad : MethodName := ⟨RX9, "requireLoad", "(I)V"⟩
abbrev cX9_requireRange : ByteArray := prog_1_method_33_code
def yX9_requireRange : MethodName := ⟨RX9, "requireRange", "(III)V"⟩
def RX10 : String := "RareFaultsModel"
def TX10 : u_T := fun k => match k with
  | 0 => ("RareFaultsModel", "z", "[I", true)
  | 1 => ("RareFaultsModel", "sums", "[D", true)
  | 2 => ("RareFaultsModel", "states", "I", false)
  | 3 => ("RareFaultsModel", "history", "[I", true)
  | 4 => ("RareFaultsModel", "sumHistory", "[D", true)
  | 5 => ("RareFaultsModel", "length", "I", false)
  | 6 => ("RareFaultsModel", "text", "[I", true)
  | 7 => ("RareFaultsModel", "thrown", "I", false)
  | 8 => ("RareFaultsModel", "ways", "[J", true)
  | 9 => ("RareFaultsModel", "most", "[I", true)
  | 10 => ("RareFaultsModel", "told", "[I", true)
  | 11 => ("RareFaultsModel", "read", "I", false)
  | 12 => ("RareFaultsModel", "loads", "I", false)
  | 13 => ("RareFaultsModel", "total", "I", false)
  | 14 => ("RareFaultsModel", "row", "[I", true)
  | _ => ("RareFaultsModel", "hash", "J", false)
def tyX10 : Nat → FieldType := fun k => match k with
  | 0 => .array .int
  | 1 => .array .double
  | 2 => .int
  | 3 => .array .int
  | 4 => .array .double
  | 5 => .int
  | 6 => .array .int
  | 7 => .int
  | 8 => .array .long
  | 9 => .array .int
  | 10 => .array .int
  | 11 => .int
  | 12 => .int
  | 13 => .int
  | 14 => .array .int
  | _ => .long
abbrev wsX100 : List Cond := u_ws RX10 TX10 16
theorem nmX10 : ∀ a, a < 16 → ∀ b, b < 16 → a ≠ b → (TX10 a).2.1 ≠ (TX10 b).2.1 := by decide +kernel
theorem tyX10_ok : ∀ k, k < 16 → parseFieldDescriptor (TX10 k).2.2.1 = some (tyX10 k) := by decide +kernel
abbrev cX10_init : ByteArray := prog_12_method_1_code
def yX10_init : MethodName := ⟨RX10, "<init>", "()V"⟩
abbrev cX10_thrown : ByteArray := prog_12_method_2_code
def yX10_thrown : MethodName := ⟨RX10, "thrown", "()I"⟩
abbrev cX10_within : ByteArray := prog_12_method_3_code
def yX10_within : MethodName := ⟨RX10, "within", "(III)Z"⟩
abbrev cX10_save : ByteArray := prog_12_method_4_code
def yX10_save : MethodName := ⟨RX10, "save", "()V"⟩
abbrev cX10_isPart : ByteArray := prog_12_method_5_code
def yX10_isPart : MethodName := ⟨RX10, "isPart", "(I)Z"⟩
abbrev cX10_isLoad : ByteArray := prog_12_method_6_code
def yX10_isLoad : MethodName := ⟨RX10, "isLoad", "(I)Z"⟩
abbrev cX10_weightOf : ByteArray := prog_12_method_7_code
def yX10_weightOf : MethodName := ⟨RX10, "weightOf", "(II)I"⟩
abbrev cX10_tiltedOf : ByteArray := prog_12_method_8_code
def yX10_tiltedOf : MethodName := ⟨RX10, "tiltedOf", "(II)I"⟩
abbrev cX10_totalOf : ByteArray := prog_12_method_9_code
def yX10_totalOf : MethodName := ⟨RX10, "totalOf", "(I)I"⟩
abbrev cX10_tiltedTotalOf : ByteArray := prog_12_method_10_code
def yX10_tiltedTotalOf : MethodName := ⟨RX10, "tiltedTotalOf", "(I)I"⟩
abbrev cX10_forgets : ByteArray := prog_12_method_11_code
def yX10_forgets : MethodName := ⟨RX10, "forgets", "()I"⟩
abbrev cX10_drawLoad : ByteArray := prog_12_method_12_code
def yX10_drawLoad : MethodName := ⟨RX10, "drawLoad", "(I)I"⟩
abbrev cX10_corrected : ByteArray := prog_12_method_13_code
def yX10_corrected : MethodName := ⟨RX10, "corrected", "(DII)D"⟩
abbrev cX10_drawRow : ByteArray := prog_12_method_14_code
def yX10_drawRow : MethodName := ⟨RX10, "drawRow", "()I"⟩
abbrev cX10_layWays : ByteArray := prog_12_method_15_code
def yX10_layWays : MethodName := ⟨RX10, "layWays", "(I)V"⟩
abbrev cX10_addPartWays : ByteArray := prog_12_method_16_code
def yX10_addPartWays : MethodName := ⟨RX10, "addPartWays", "(I)V"⟩
abbrev cX10_waysFrom : ByteArray := prog_12_method_17_code
def yX10_waysFrom : MethodName := ⟨RX10, "waysFrom", "(I)J"⟩
abbrev cX10_oddsBy : ByteArray := prog_12_method_18_code
def yX10_oddsBy : MethodName := ⟨RX10, "oddsBy", "(II)D"⟩
abbrev cX10_layMost : ByteArray := prog_12_method_19_code
def yX10_layMost : MethodName := ⟨RX10, "layMost", "()V"⟩
abbrev cX10_mostBy : ByteArray := prog_12_method_20_code
def yX10_mostBy : MethodName := ⟨RX10, "mostBy", "(III)I"⟩
abbrev cX10_likeliestWays : ByteArray := prog_12_method_21_code
def yX10_likeliestWays : MethodName := ⟨RX10, "likeliestWays", "()I"⟩
abbrev cX10_likeliestLoad : ByteArray := prog_12_method_22_code
def yX10_likeliestLoad : MethodName := ⟨RX10, "likeliestLoad", "(I)I"⟩
abbrev cX10_layPart : ByteArray := prog_12_method_23_code
def yX10_layPart : MethodName := ⟨RX10, "layPart", "(I)V"⟩
abbrev cX10_addPart : ByteArray := prog_12_method_24_code
def yX10_addPart : MethodName := ⟨RX10, "addPart", "(I)I"⟩
abbrev cX10_removeFrom : ByteArray := prog_12_method_25_code
def yX10_removeFrom : MethodName := ⟨RX10, "removeFrom", "(II)V"⟩
abbrev cX10_removePart : ByteArray := prog_12_method_26_code
def yX10_removePart : MethodName := ⟨RX10, "removePart", "(I)I"⟩
abbrev cX10_weigh : ByteArray := prog_12_method_27_code
def yX10_weigh : MethodName := ⟨RX10, "weigh", "(III)I"⟩
abbrev cX10_tilt : ByteArray := prog_12_method_28_code
def yX10_tilt : MethodName := ⟨RX10, "tilt", "(III)I"⟩
abbrev cX10_tiltAll : ByteArray := prog_12_method_29_code
def yX10_tiltAll : MethodName := ⟨RX10, "tiltAll", "(I)I"⟩
abbrev cX10_isLimit : ByteArray := prog_12_method_30_code
def yX10_isLimit : MethodName := ⟨RX10, "isLimit", "(I)Z"⟩
abbrev cX10_limit : ByteArray := prog_12_method_31_code
def yX10_limit : MethodName := ⟨RX10, "limit", "(I)I"⟩
abbrev cX10_seed : ByteArray := prog_12_method_32_code
def yX10_seed : MethodName := ⟨RX10, "seed", "(I)I"⟩
abbrev cX10_draw : ByteArray := prog_12_method_33_code
def yX10_draw : MethodName := ⟨RX10, "draw", "(I)I"⟩
abbrev cX10_forget : ByteArray := prog_12_method_34_code
def yX10_forget : MethodName := ⟨RX10, "forget", "()I"⟩
abbrev cX10_append : ByteArray := prog_12_method_35_code
def yX10_append : MethodName := ⟨RX10, "append", "(I)I"⟩
abbrev cX10_clearBuffer : ByteArray := prog_12_method_36_code
def yX10_clearBuffer : MethodName := ⟨RX10, "clearBuffer", "()I"⟩
abbrev cX10_beginPart : ByteArray := prog_12_method_37_code
def yX10_beginPart : MethodName := ⟨RX10, "beginPart", "()V"⟩
abbrev cX10_takes : ByteArray := prog_12_method_38_code
def yX10_takes : MethodName := ⟨RX10, "takes", "(I)Z"⟩
abbrev cX10_rightUpTo : ByteArray := prog_12_method_39_code
def yX10_rightUpTo : MethodName := ⟨RX10, "rightUpTo", "()I"⟩
abbrev cX10_firstError : ByteArray := prog_12_method_40_code
def yX10_firstError : MethodName := ⟨RX10, "firstError", "()I"⟩
abbrev cX10_addAll : ByteArray := prog_12_method_41_code
def yX10_addAll : MethodName := ⟨RX10, "addAll", "()I"⟩
abbrev cX10_undo : ByteArray := prog_12_method_42_code
def yX10_undo : MethodName := ⟨RX10, "undo", "()I"⟩
abbrev cX10_leastLoad : ByteArray := prog_12_method_43_code
def yX10_leastLoad : MethodName := ⟨RX10, "leastLoad", "(I)I"⟩
abbrev cX10_greatestLoad : ByteArray := prog_12_method_44_code
def yX10_greatestLoad : MethodName := ⟨RX10, "greatestLoad", "(I)I"⟩
abbrev cX10_loadSum : ByteArray := prog_12_method_45_code
def yX10_loadSum : MethodName := ⟨RX10, "loadSum", "(IZ)I"⟩
abbrev cX10_partNow : ByteArray := prog_12_method_46_code
def yX10_partNow : MethodName := ⟨RX10, "partNow", "(II)I"⟩
abbrev cX10_part : ByteArray := prog_12_method_47_code
def yX10_part : MethodName := ⟨RX10, "part", "(II)I"⟩
abbrev cX10_weight : ByteArray := prog_12_method_48_code
def yX10_weight : MethodName := ⟨RX10, "weight", "(IIZ)I"⟩
abbrev cX10_waysNow : ByteArray := prog_12_method_49_code
def yX10_waysNow : MethodName := ⟨RX10, "waysNow", "(IZ)J"⟩
abbrev cX10_ways : ByteArray := prog_12_method_50_code
def yX10_ways : MethodName := ⟨RX10, "ways", "(IZ)J"⟩
abbrev cX10_likeliest : ByteArray := prog_12_method_51_code
def yX10_likeliest : MethodName := ⟨RX10, "likeliest", "(I)I"⟩
abbrev cX10_endSum : ByteArray := prog_12_method_52_code
def yX10_endSum : MethodName := ⟨RX10, "endSum", "(Z)I"⟩
abbrev cX10_counted : ByteArray := prog_12_method_53_code
def yX10_counted : MethodName := ⟨RX10, "counted", "(I)I"⟩
abbrev cX10_count : ByteArray := prog_12_method_54_code
def yX10_count : MethodName := ⟨RX10, "count", "(I)I"⟩
abbrev cX10_bySamples : ByteArray := prog_12_method_55_code
def yX10_bySamples : MethodName := ⟨RX10, "bySamples", "(D)D"⟩
abbrev cX10_effective : ByteArray := prog_12_method_56_code
def yX10_effective : MethodName := ⟨RX10, "effective", "()D"⟩
abbrev cX10_measured : ByteArray := prog_12_method_57_code
def yX10_measured : MethodName := ⟨RX10, "measured", "(I)D"⟩
abbrev cX10_measure : ByteArray := prog_12_method_58_code
def yX10_measure : MethodName := ⟨RX10, "measure", "(I)D"⟩
abbrev cX10_ifLimit : ByteArray := prog_12_method_59_code
def yX10_ifLimit : MethodName := ⟨RX10, "ifLimit", "(I)D"⟩
abbrev cX10_limitNow : ByteArray := prog_12_method_60_code
def yX10_limitNow : MethodName := ⟨RX10, "limitNow", "(I)I"⟩
abbrev cX10_limitFor : ByteArray := prog_12_method_61_code
def yX10_limitFor : MethodName := ⟨RX10, "limitFor", "(I)I"⟩
abbrev cX10_correctionOf : ByteArray := prog_12_method_62_code
def yX10_correctionOf : MethodName := ⟨RX10, "correctionOf", "(Z)D"⟩
abbrev cX10_goesOn : ByteArray := prog_12_method_63_code
def yX10_goesOn : MethodName := ⟨RX10, "goesOn", "()Z"⟩
abbrev cX10_greatestNow : ByteArray := prog_12_method_64_code
def yX10_greatestNow : MethodName := ⟨RX10, "greatestNow", "(Z)D"⟩
abbrev cX10_greatest : ByteArray := prog_12_method_65_code
def yX10_greatest : MethodName := ⟨RX10, "greatest", "(Z)D"⟩
abbrev cX10_slightestNow : ByteArray := prog_12_method_66_code
def yX10_slightestNow : MethodName := ⟨RX10, "slightestNow", "()I"⟩
abbrev cX10_slightest : ByteArray := prog_12_method_67_code
def yX10_slightest : MethodName := ⟨RX10, "slightest", "()I"⟩
abbrev cX10_mix : ByteArray := prog_12_method_68_code
def yX10_mix : MethodName := ⟨RX10, "mix", "(J)V"⟩
abbrev cX10_mixPart : ByteArray := prog_12_method_69_code
def yX10_mixPart : MethodName := ⟨RX10, "mixPart", "(I)V"⟩
abbrev cX10_digest : ByteArray := prog_12_method_70_code
def yX10_digest : MethodName := ⟨RX10, "digest", "()J"⟩
def RJxe99ae : String := "java/lang/Double"
def TJxe99ae : u_T := fun k => match k with
  | _ => ("", "", "", false)
def tyJxe99ae : Nat → FieldType := fun k => match k with
  | _ => .int
abbrev wsJxe99ae0 : List Cond := u_ws RJxe99ae TJxe99ae 0
theorem nmJxe99ae : ∀ a, a < 0 → ∀ b, b < 0 → a ≠ b → (TJxe99ae a).2.1 ≠ (TJxe99ae b).2.1 := by decide +kernel
theorem tyJxe99ae_ok : ∀ k, k < 0 → parseFieldDescriptor (TJxe99ae k).2.2.1 = some (tyJxe99ae k) := by decide +kernel
abbrev cJxe99ae_isNaN_b9ae7 : ByteArray := prog_13_method_6_code
def yJxe99ae_isNaN_b9ae7 : MethodName := ⟨RJxe99ae, "isNaN", "(D)Z"⟩
abbrev cJxe99ae_doubleToLongBits_ccdee : ByteArray := prog_13_method_23_code
def yJxe99ae_doubleToLongBits_ccdee : MethodName := ⟨RJxe99ae, "doubleToLongBits", "(D)J"⟩
def RJ9 : String := "java/lang/Math"
def TJ9 : u_T := fun k => match k with
  | _ => ("", "", "", false)
def tyJ9 : Nat → FieldType := fun k => match k with
  | _ => .int
abbrev wsJ90 : List Cond := u_ws RJ9 TJ9 0
theorem nmJ9 : ∀ a, a < 0 → ∀ b, b < 0 → a ≠ b → (TJ9 a).2.1 ≠ (TJ9 b).2.1 := by decide +kernel
theorem tyJ9_ok : ∀ k, k < 0 → parseFieldDescriptor (TJ9 k).2.2.1 = some (tyJ9 k) := by decide +kernel
abbrev cJ9_max_7cf53 : ByteArray := prog_18_method_65_code
def yJ9_max_7cf53 : MethodName := ⟨RJ9, "max", "(II)I"⟩
abbrev cJ9_min_7cf53 : ByteArray := prog_18_method_69_code
def yJ9_min_7cf53 : MethodName := ⟨RJ9, "min", "(II)I"⟩
def RJ0 : String := "java/lang/String"
def TJ0 : u_T := fun k => match k with
  | _ => ("", "", "", false)
def tyJ0 : Nat → FieldType := fun k => match k with
  | _ => .int
abbrev wsJ00 : List Cond := u_ws RJ0 TJ0 0
theorem nmJ0 : ∀ a, a < 0 → ∀ b, b < 0 → a ≠ b → (TJ0 a).2.1 ≠ (TJ0 b).2.1 := by decide +kernel
theorem tyJ0_ok : ∀ k, k < 0 → parseFieldDescriptor (TJ0 k).2.2.1 = some (tyJ0 k) := by decide +kernel
def RL : String := "RareFaultsLaw"
abbrev cL_addPart : ByteArray := method_3_code
def yL_addPart : MethodName := ⟨RL, "addPart", "(LRareFaults;I[J)I"⟩
abbrev cL_removePart : ByteArray := method_4_code
def yL_removePart : MethodName := ⟨RL, "removePart", "(LRareFaults;I[J)I"⟩
abbrev cL_weigh : ByteArray := method_5_code
def yL_weigh : MethodName := ⟨RL, "weigh", "(LRareFaults;III[J)I"⟩
abbrev cL_tilt : ByteArray := method_6_code
def yL_tilt : MethodName := ⟨RL, "tilt", "(LRareFaults;III[J)I"⟩
abbrev cL_tiltAll : ByteArray := method_7_code
def yL_tiltAll : MethodName := ⟨RL, "tiltAll", "(LRareFaults;I[J)I"⟩
abbrev cL_limit : ByteArray := method_8_code
def yL_limit : MethodName := ⟨RL, "limit", "(LRareFaults;I[J)I"⟩
abbrev cL_seed : ByteArray := method_9_code
def yL_seed : MethodName := ⟨RL, "seed", "(LRareFaults;I[J)I"⟩
abbrev cL_draw : ByteArray := method_10_code
def yL_draw : MethodName := ⟨RL, "draw", "(LRareFaults;I[J)I"⟩
abbrev cL_append : ByteArray := method_11_code
def yL_append : MethodName := ⟨RL, "append", "(LRareFaults;I[J)I"⟩
abbrev cL_addAll : ByteArray := method_12_code
def yL_addAll : MethodName := ⟨RL, "addAll", "(LRareFaults;[J)I"⟩
abbrev cL_undo : ByteArray := method_13_code
def yL_undo : MethodName := ⟨RL, "undo", "(LRareFaults;[J)I"⟩
abbrev cL_part : ByteArray := method_14_code
def yL_part : MethodName := ⟨RL, "part", "(LRareFaults;II[J)I"⟩
abbrev cL_weight : ByteArray := method_15_code
def yL_weight : MethodName := ⟨RL, "weight", "(LRareFaults;IIZ[J)I"⟩
abbrev cL_ways : ByteArray := method_16_code
def yL_ways : MethodName := ⟨RL, "ways", "(LRareFaults;IZ[J)I"⟩
abbrev cL_likeliest : ByteArray := method_17_code
def yL_likeliest : MethodName := ⟨RL, "likeliest", "(LRareFaults;I[J)I"⟩
abbrev cL_count : ByteArray := method_18_code
def yL_count : MethodName := ⟨RL, "count", "(LRareFaults;I[J)I"⟩
abbrev cL_measure : ByteArray := method_19_code
def yL_measure : MethodName := ⟨RL, "measure", "(LRareFaults;I[D)I"⟩
abbrev cL_ifLimit : ByteArray := method_20_code
def yL_ifLimit : MethodName := ⟨RL, "ifLimit", "(LRareFaults;I[D)I"⟩
abbrev cL_limitFor : ByteArray := method_21_code
def yL_limitFor : MethodName := ⟨RL, "limitFor", "(LRareFaults;I[J)I"⟩
abbrev cL_law : ByteArray := code
def yL_law : MethodName := ⟨RL, "law", "([I)Z"⟩
def wsJxe99ae_isNaN_b9ae7 : List Cond := .code yJxe99ae_isNaN_b9ae7 cJxe99ae_isNaN_b9ae7 2 (some .boolean) :: ([])
def wsJxe99ae_doubleToLongBits_ccdee : List Cond := .code yJxe99ae_doubleToLongBits_ccdee cJxe99ae_doubleToLongBits_ccdee 2 (some .long) :: ([.methodLink RJxe99ae 134 ⟨"java/lang/Double", "doubleToRawLongBits", "(D)J"⟩, .native ⟨"java/lang/Double", "doubleToRawLongBits", "(D)J"⟩, .static ⟨"java/lang/Double", "doubleToRawLongBits", "(D)J"⟩, .initialized "java/lang/Double", .constantLong RJxe99ae 137 (9221120237041090560), .methodLink RJxe99ae 122 yJxe99ae_isNaN_b9ae7, .static yJxe99ae_isNaN_b9ae7, .initialized RJxe99ae, .code yJxe99ae_isNaN_b9ae7 cJxe99ae_isNaN_b9ae7 2 (some .boolean)])
def wsJ9_max_7cf53 : List Cond := .code yJ9_max_7cf53 cJ9_max_7cf53 2 (some .int) :: ([])
def wsJ9_min_7cf53 : List Cond := .code yJ9_min_7cf53 cJ9_min_7cf53 2 (some .int) :: ([])
def wsL_law0_r1 : List Cond := [Cond.classLink RL 8 RX9, Cond.instantiable RX9 6, Cond.initialized RX9, Cond.classLink RL 80 RX10, Cond.instantiable RX10 16, Cond.initialized RX10, Cond.arrayClass .long, Cond.arrayClass .double, Cond.methodLink RL 79 yX9_init, Cond.instanceMethod yX9_init, Cond.code yX9_init cX9_init 1 none, Cond.methodLink RX9 3 objectInit, Cond.instanceMethod objectInit, Cond.code objectInit ⟨#[0xb1]⟩ 1 none, Cond.classLink RX9 9 RX4, Cond.instantiable RX4 6, Cond.initialized RX4, Cond.fieldLink RX9 12 "RareFaults" "plant" "LRareFaults$Plant;", Cond.classLink RX9 16 RX2, Cond.instantiable RX2 3, Cond.initialized RX2, Cond.fieldLink RX9 19 "RareFaults" "history" "LRareFaults$History;", Cond.classLink RX9 23 RX8, Cond.instantiable RX8 2]
def wsL_law0_r2 : List Cond := [Cond.initialized RX8, Cond.fieldLink RX9 26 "RareFaults" "buffer" "LRareFaults$Text;", Cond.classLink RX9 30 RX1, Cond.instantiable RX1 1, Cond.initialized RX1, Cond.fieldLink RX9 33 "RareFaults" "counting" "LRareFaults$Counting;", Cond.classLink RX9 37 RX3, Cond.instantiable RX3 1, Cond.initialized RX3, Cond.fieldLink RX9 40 "RareFaults" "likeliestFault" "LRareFaults$Likeliest;", Cond.classLink RX9 44 RX0, Cond.instantiable RX0 1, Cond.initialized RX0, Cond.fieldLink RX9 47 "RareFaults" "corrections" "LRareFaults$Corrections;", Cond.instanceMethod yX4_init, Cond.code yX4_init cX4_init 1 none, Cond.methodLink RX4 3 objectInit, Cond.classLink RX4 9 RX7, Cond.instantiable RX7 1, Cond.initialized RX7, Cond.fieldLink RX4 12 "RareFaults$Plant" "weights" "LRareFaults$Table;", Cond.fieldLink RX4 18 "RareFaults$Plant" "tilted" "LRareFaults$Table;", Cond.classLink RX4 21 RX5, Cond.instantiable RX5 7]
def wsL_law0_r3 : List Cond := [Cond.initialized RX5, Cond.fieldLink RX4 24 "RareFaults$Plant" "samples" "LRareFaults$Samples;", Cond.fieldLink RX4 28 "RareFaults$Plant" "parts" "I", Cond.fieldLink RX4 32 "RareFaults$Plant" "limit" "I", Cond.fieldLink RX4 35 "RareFaults$Plant" "seed" "I", Cond.instanceMethod yX7_init, Cond.code yX7_init cX7_init 1 none, Cond.methodLink RX7 3 objectInit, Cond.arrayClass .int, Cond.fieldLink RX7 9 "RareFaults$Table" "cells" "[I", Cond.instanceMethod yX5_init, Cond.code yX5_init cX5_init 1 none, Cond.methodLink RX5 3 objectInit, Cond.fieldLink RX5 9 "RareFaults$Samples" "latestLoads" "[I", Cond.instanceMethod yX2_init, Cond.code yX2_init cX2_init 1 none, Cond.methodLink RX2 3 objectInit, Cond.classLink RX2 9 RX4, Cond.fieldLink RX2 11 "RareFaults$History" "places" "[LRareFaults$Plant;", Cond.fieldLink RX2 17 "RareFaults$History" "next" "I", Cond.fieldLink RX2 21 "RareFaults$History" "number" "I", Cond.instanceMethod yX8_init, Cond.code yX8_init cX8_init 1 none, Cond.methodLink RX8 3 objectInit]
def wsL_law0_r4 : List Cond := [Cond.fieldLink RX8 9 "RareFaults$Text" "codes" "[I", Cond.fieldLink RX8 15 "RareFaults$Text" "length" "I", Cond.instanceMethod yX1_init, Cond.code yX1_init cX1_init 1 none, Cond.methodLink RX1 3 objectInit, Cond.fieldLink RX1 9 "RareFaults$Counting" "ways" "[J", Cond.instanceMethod yX3_init, Cond.code yX3_init cX3_init 1 none, Cond.methodLink RX3 3 objectInit, Cond.fieldLink RX3 9 "RareFaults$Likeliest" "most" "[I", Cond.instanceMethod yX0_init, Cond.code yX0_init cX0_init 1 none, Cond.methodLink RX0 3 objectInit, Cond.fieldLink RX0 9 "RareFaults$Corrections" "greatestBySum" "[D", Cond.methodLink RL 82 yX10_init, Cond.instanceMethod yX10_init, Cond.code yX10_init cX10_init 1 none, Cond.methodLink RX10 1 objectInit, Cond.fieldLink RX10 7 "RareFaultsModel" "z" "[I", Cond.fieldLink RX10 13 "RareFaultsModel" "sums" "[D", Cond.fieldLink RX10 17 "RareFaultsModel" "history" "[I", Cond.fieldLink RX10 20 "RareFaultsModel" "sumHistory" "[D", Cond.fieldLink RX10 23 "RareFaultsModel" "text" "[I", Cond.fieldLink RX10 26 "RareFaultsModel" "ways" "[J"]
def wsL_law0_r5 : List Cond := [Cond.fieldLink RX10 30 "RareFaultsModel" "most" "[I", Cond.fieldLink RX10 33 "RareFaultsModel" "told" "[I", Cond.fieldLink RX10 36 "RareFaultsModel" "row" "[I", Cond.methodLink RL 83 yL_addPart, Cond.static yL_addPart, Cond.initialized RL, Cond.codeWith yL_addPart cL_addPart 4 (some .int) [(0, 9, 12, 13), (0, 9, 15, 15)], Cond.classLink RL 13 "java/lang/IllegalArgumentException", Cond.classLink RL 15 "java/lang/IllegalStateException", Cond.methodLink RL 7 yX9_addPart, Cond.instanceMethod yX9_addPart, Cond.selects RX9 yX9_addPart yX9_addPart, Cond.code yX9_addPart cX9_addPart 4 (some .int), Cond.classLink RX9 51 "java/lang/IllegalArgumentException", Cond.initialized "java/lang/IllegalArgumentException", Cond.classLink RX9 62 "java/lang/IllegalStateException", Cond.initialized "java/lang/IllegalStateException", Cond.fieldLink RX9 58 "RareFaults$Plant" "parts" "I", Cond.methodLink RX9 67 yX2_save, Cond.instanceMethod yX2_save, Cond.selects RX2 yX2_save yX2_save, Cond.code yX2_save cX2_save 3 none, Cond.methodLink RX2 29 Lib.Math.min.name, Cond.static Lib.Math.min.name]
def wsL_law0_r6 : List Cond := [Cond.initialized "java/lang/Math", Cond.code Lib.Math.min.name Lib.Math.min.code 2 (some .int), Cond.methodLink RX2 25 yX4_copyFrom, Cond.instanceMethod yX4_copyFrom, Cond.selects RX4 yX4_copyFrom yX4_copyFrom, Cond.code yX4_copyFrom cX4_copyFrom 2 none, Cond.methodLink RX4 90 yX7_copyFrom, Cond.instanceMethod yX7_copyFrom, Cond.selects RX7 yX7_copyFrom yX7_copyFrom, Cond.code yX7_copyFrom cX7_copyFrom 3 none, Cond.methodLink RX4 94 yX5_copyFrom, Cond.instanceMethod yX5_copyFrom, Cond.selects RX5 yX5_copyFrom yX5_copyFrom, Cond.code yX5_copyFrom cX5_copyFrom 3 none, Cond.fieldLink RX5 15 "RareFaults$Samples" "number" "I", Cond.fieldLink RX5 19 "RareFaults$Samples" "faults" "I", Cond.fieldLink RX5 22 "RareFaults$Samples" "faultSum" "D", Cond.fieldLink RX5 26 "RareFaults$Samples" "sum" "D", Cond.fieldLink RX5 29 "RareFaults$Samples" "squareSum" "D", Cond.fieldLink RX5 32 "RareFaults$Samples" "latestCorrection" "D", Cond.methodLink RX9 71 yX4_addEmptyPart, Cond.instanceMethod yX4_addEmptyPart, Cond.selects RX4 yX4_addEmptyPart yX4_addEmptyPart, Cond.code yX4_addEmptyPart cX4_addEmptyPart 1 (some .int)]
def wsL_law0_r7 : List Cond := [Cond.methodLink RX4 38 yX5_clear, Cond.instanceMethod yX5_clear, Cond.selects RX5 yX5_clear yX5_clear, Cond.code yX5_clear cX5_clear 1 none, Cond.methodLink RX9 75 yX4_setBothWeights, Cond.instanceMethod yX4_setBothWeights, Cond.selects RX4 yX4_setBothWeights yX4_setBothWeights, Cond.code yX4_setBothWeights cX4_setBothWeights 4 none, Cond.methodLink RX4 45 yX7_set, Cond.instanceMethod yX7_set, Cond.selects RX7 yX7_set yX7_set, Cond.code yX7_set cX7_set 4 none, Cond.methodLink RL 88 yX10_addPart, Cond.instanceMethod yX10_addPart, Cond.selects RX10 yX10_addPart yX10_addPart, Cond.code yX10_addPart cX10_addPart 4 (some .int), Cond.fieldLink RX10 39 "RareFaultsModel" "thrown" "I", Cond.methodLink RX10 100 yX10_isLoad, Cond.static yX10_isLoad, Cond.code yX10_isLoad cX10_isLoad 1 (some .boolean), Cond.methodLink RX10 46 yX10_within, Cond.static yX10_within, Cond.code yX10_within cX10_within 3 (some .boolean), Cond.methodLink RX10 104 yX10_save]
def wsL_law0_r8 : List Cond := [Cond.instanceMethod yX10_save, Cond.selects RX10 yX10_save yX10_save, Cond.code yX10_save cX10_save 2 none, Cond.fieldLink RX10 43 "RareFaultsModel" "states" "I", Cond.methodLink RX10 107 yX10_forgets, Cond.instanceMethod yX10_forgets, Cond.selects RX10 yX10_forgets yX10_forgets, Cond.code yX10_forgets cX10_forgets 3 (some .int), Cond.methodLink RX10 110 yX10_layPart, Cond.instanceMethod yX10_layPart, Cond.selects RX10 yX10_layPart yX10_layPart, Cond.code yX10_layPart cX10_layPart 3 none, Cond.methodLink RX10 50 yX10_weightOf, Cond.instanceMethod yX10_weightOf, Cond.selects RX10 yX10_weightOf yX10_weightOf, Cond.code yX10_weightOf cX10_weightOf 3 (some .int), Cond.methodLink RL 89 yX10_thrown, Cond.instanceMethod yX10_thrown, Cond.selects RX10 yX10_thrown yX10_thrown, Cond.code yX10_thrown cX10_thrown 1 (some .int), Cond.methodLink RL 92 yL_removePart, Cond.static yL_removePart, Cond.codeWith yL_removePart cL_removePart 4 (some .int) [(0, 9, 12, 20)], Cond.classLink RL 20 "java/lang/IndexOutOfBoundsException"]
def wsL_law0_r9 : List Cond := [Cond.methodLink RL 17 yX9_removePart, Cond.instanceMethod yX9_removePart, Cond.selects RX9 yX9_removePart yX9_removePart, Cond.code yX9_removePart cX9_removePart 2 (some .int), Cond.methodLink RX9 79 yX9_requirePart, Cond.instanceMethod yX9_requirePart, Cond.selects RX9 yX9_requirePart yX9_requirePart, Cond.code yX9_requirePart cX9_requirePart 2 none, Cond.classLink RX9 318 "java/lang/IndexOutOfBoundsException", Cond.initialized "java/lang/IndexOutOfBoundsException", Cond.methodLink RX9 83 yX4_dropPart, Cond.instanceMethod yX4_dropPart, Cond.selects RX4 yX4_dropPart yX4_dropPart, Cond.code yX4_dropPart cX4_dropPart 2 none, Cond.methodLink RX4 41 yX7_dropRow, Cond.instanceMethod yX7_dropRow, Cond.selects RX7 yX7_dropRow yX7_dropRow, Cond.code yX7_dropRow cX7_dropRow 4 none, Cond.methodLink RX7 15 yX7_get, Cond.instanceMethod yX7_get, Cond.selects RX7 yX7_get yX7_get, Cond.code yX7_get cX7_get 4 (some .int), Cond.methodLink RX7 19 yX7_set, Cond.methodLink RL 94 yX10_removePart]
def wsL_law0_r10 : List Cond := [Cond.instanceMethod yX10_removePart, Cond.selects RX10 yX10_removePart yX10_removePart, Cond.code yX10_removePart cX10_removePart 3 (some .int), Cond.methodLink RX10 113 yX10_isPart, Cond.instanceMethod yX10_isPart, Cond.selects RX10 yX10_isPart yX10_isPart, Cond.code yX10_isPart cX10_isPart 2 (some .boolean), Cond.methodLink RX10 116 yX10_removeFrom, Cond.instanceMethod yX10_removeFrom, Cond.selects RX10 yX10_removeFrom yX10_removeFrom, Cond.code yX10_removeFrom cX10_removeFrom 4 none, Cond.methodLink RL 95 yL_weigh, Cond.static yL_weigh, Cond.codeWith yL_weigh cL_weigh 6 (some .int) [(0, 12, 15, 20), (0, 12, 19, 13), (0, 12, 23, 15)], Cond.methodLink RL 22 yX9_weigh, Cond.instanceMethod yX9_weigh, Cond.selects RX9 yX9_weigh yX9_weigh, Cond.code yX9_weigh cX9_weigh 5 (some .int), Cond.fieldLink RX9 92 "RareFaults$Plant" "weights" "LRareFaults$Table;", Cond.methodLink RX9 86 yX9_requireLoad, Cond.static yX9_requireLoad, Cond.code yX9_requireLoad cX9_requireLoad 1 none, Cond.methodLink RX9 89 yX9_requireRange, Cond.static yX9_requireRange]
def wsL_law0_r11 : List Cond := [Cond.code yX9_requireRange cX9_requireRange 3 none, Cond.methodLink RX9 96 yX7_get, Cond.methodLink RX9 102 yX7_totalOf, Cond.instanceMethod yX7_totalOf, Cond.selects RX7 yX7_totalOf yX7_totalOf, Cond.code yX7_totalOf cX7_totalOf 4 (some .int), Cond.methodLink RX9 108 yX4_setWeight, Cond.instanceMethod yX4_setWeight, Cond.selects RX4 yX4_setWeight yX4_setWeight, Cond.code yX4_setWeight cX4_setWeight 4 none, Cond.methodLink RX4 49 yX7_get, Cond.methodLink RL 98 yX10_weigh, Cond.instanceMethod yX10_weigh, Cond.selects RX10 yX10_weigh yX10_weigh, Cond.code yX10_weigh cX10_weigh 6 (some .int), Cond.methodLink RX10 68 yX10_totalOf, Cond.instanceMethod yX10_totalOf, Cond.selects RX10 yX10_totalOf yX10_totalOf, Cond.code yX10_totalOf cX10_totalOf 4 (some .int), Cond.methodLink RX10 54 yX10_tiltedOf, Cond.instanceMethod yX10_tiltedOf, Cond.selects RX10 yX10_tiltedOf yX10_tiltedOf, Cond.code yX10_tiltedOf cX10_tiltedOf 3 (some .int), Cond.methodLink RL 99 yL_tilt]
def wsL_law0_r12 : List Cond := [Cond.static yL_tilt, Cond.codeWith yL_tilt cL_tilt 6 (some .int) [(0, 12, 15, 20), (0, 12, 19, 13), (0, 12, 23, 15)], Cond.methodLink RL 26 yX9_tilt, Cond.instanceMethod yX9_tilt, Cond.selects RX9 yX9_tilt yX9_tilt, Cond.code yX9_tilt cX9_tilt 5 (some .int), Cond.fieldLink RX9 113 "RareFaults$Plant" "tilted" "LRareFaults$Table;", Cond.methodLink RX9 116 yX4_setTilted, Cond.instanceMethod yX4_setTilted, Cond.selects RX4 yX4_setTilted yX4_setTilted, Cond.code yX4_setTilted cX4_setTilted 4 none, Cond.methodLink RL 101 yX10_tilt, Cond.instanceMethod yX10_tilt, Cond.selects RX10 yX10_tilt yX10_tilt, Cond.code yX10_tilt cX10_tilt 6 (some .int), Cond.methodLink RL 102 yL_tiltAll, Cond.static yL_tiltAll, Cond.codeWith yL_tiltAll cL_tiltAll 4 (some .int) [(0, 9, 12, 13)], Cond.methodLink RL 29 yX9_tiltAll, Cond.instanceMethod yX9_tiltAll, Cond.selects RX9 yX9_tiltAll yX9_tiltAll, Cond.code yX9_tiltAll cX9_tiltAll 2 (some .int), Cond.methodLink RX9 119 yX4_tiltBy, Cond.instanceMethod yX4_tiltBy]
def wsL_law0_r13 : List Cond := [Cond.selects RX4 yX4_tiltBy yX4_tiltBy, Cond.code yX4_tiltBy cX4_tiltBy 5 none, Cond.methodLink RX4 53 Lib.Math.min.name, Cond.methodLink RX9 122 yX4_sumOfTiltedTotals, Cond.instanceMethod yX4_sumOfTiltedTotals, Cond.selects RX4 yX4_sumOfTiltedTotals yX4_sumOfTiltedTotals, Cond.code yX4_sumOfTiltedTotals cX4_sumOfTiltedTotals 3 (some .int), Cond.methodLink RX4 58 yX7_totalOf, Cond.methodLink RL 104 yX10_tiltAll, Cond.instanceMethod yX10_tiltAll, Cond.selects RX10 yX10_tiltAll yX10_tiltAll, Cond.code yX10_tiltAll cX10_tiltAll 7 (some .int), Cond.methodLink RX10 64 yX10_tiltedTotalOf, Cond.instanceMethod yX10_tiltedTotalOf, Cond.selects RX10 yX10_tiltedTotalOf yX10_tiltedTotalOf, Cond.code yX10_tiltedTotalOf cX10_tiltedTotalOf 4 (some .int), Cond.methodLink RL 105 yL_limit, Cond.static yL_limit, Cond.codeWith yL_limit cL_limit 4 (some .int) [(0, 9, 12, 13)], Cond.methodLink RL 32 yX9_limit, Cond.instanceMethod yX9_limit, Cond.selects RX9 yX9_limit yX9_limit, Cond.code yX9_limit cX9_limit 3 (some .int), Cond.fieldLink RX9 125 "RareFaults$Plant" "limit" "I"]
def wsL_law0_r14 : List Cond := [Cond.methodLink RX9 128 yX4_setLimit, Cond.instanceMethod yX4_setLimit, Cond.selects RX4 yX4_setLimit yX4_setLimit, Cond.code yX4_setLimit cX4_setLimit 2 none, Cond.methodLink RL 107 yX10_limit, Cond.instanceMethod yX10_limit, Cond.selects RX10 yX10_limit yX10_limit, Cond.code yX10_limit cX10_limit 4 (some .int), Cond.methodLink RX10 120 yX10_isLimit, Cond.static yX10_isLimit, Cond.code yX10_isLimit cX10_isLimit 1 (some .boolean), Cond.methodLink RL 108 yL_seed, Cond.static yL_seed, Cond.codeWith yL_seed cL_seed 4 (some .int) [(0, 9, 12, 13)], Cond.methodLink RL 35 yX9_seed, Cond.instanceMethod yX9_seed, Cond.selects RX9 yX9_seed yX9_seed, Cond.code yX9_seed cX9_seed 3 (some .int), Cond.fieldLink RX9 133 "RareFaults$Plant" "seed" "I", Cond.methodLink RL 110 yX10_seed, Cond.instanceMethod yX10_seed, Cond.selects RX10 yX10_seed yX10_seed, Cond.code yX10_seed cX10_seed 3 (some .int), Cond.methodLink RL 111 yL_draw]
def wsL_law0_r15 : List Cond := [Cond.static yL_draw, Cond.codeWith yL_draw cL_draw 4 (some .int) [(0, 9, 12, 13), (0, 9, 15, 15)], Cond.methodLink RL 38 yX9_draw, Cond.instanceMethod yX9_draw, Cond.selects RX9 yX9_draw yX9_draw, Cond.code yX9_draw cX9_draw 4 (some .int), Cond.fieldLink RX9 136 "RareFaults$Plant" "samples" "LRareFaults$Samples;", Cond.fieldLink RX9 140 "RareFaults$Samples" "number" "I", Cond.fieldLink RX9 147 "RareFaults$Samples" "faults" "I", Cond.methodLink RX9 150 yX4_drawRow, Cond.instanceMethod yX4_drawRow, Cond.selects RX4 yX4_drawRow yX4_drawRow, Cond.code yX4_drawRow cX4_drawRow 6 none, Cond.methodLink RX4 68 yX4_drawLoad, Cond.instanceMethod yX4_drawLoad, Cond.selects RX4 yX4_drawLoad yX4_drawLoad, Cond.code yX4_drawLoad cX4_drawLoad 6 (some .int), Cond.constantLong RX4 83 (1103515245), Cond.constantLong RX4 85 (12345), Cond.constantLong RX4 87 (2147483648), Cond.constant RX4 89 (65536), Cond.methodLink RX4 71 yX5_setLatestLoad, Cond.instanceMethod yX5_setLatestLoad, Cond.selects RX5 yX5_setLatestLoad yX5_setLatestLoad]
def wsL_law0_r16 : List Cond := [Cond.code yX5_setLatestLoad cX5_setLatestLoad 3 none, Cond.methodLink RX4 75 yX4_corrected, Cond.instanceMethod yX4_corrected, Cond.selects RX4 yX4_corrected yX4_corrected, Cond.code yX4_corrected cX4_corrected 7 (some .double), Cond.methodLink RX4 79 yX5_add, Cond.instanceMethod yX5_add, Cond.selects RX5 yX5_add yX5_add, Cond.code yX5_add cX5_add 4 none, Cond.methodLink RL 113 yX10_draw, Cond.instanceMethod yX10_draw, Cond.selects RX10 yX10_draw yX10_draw, Cond.code yX10_draw cX10_draw 5 (some .int), Cond.methodLink RX10 123 yX10_drawRow, Cond.instanceMethod yX10_drawRow, Cond.selects RX10 yX10_drawRow yX10_drawRow, Cond.code yX10_drawRow cX10_drawRow 6 (some .int), Cond.methodLink RX10 71 yX10_drawLoad, Cond.instanceMethod yX10_drawLoad, Cond.selects RX10 yX10_drawLoad yX10_drawLoad, Cond.code yX10_drawLoad cX10_drawLoad 7 (some .int), Cond.constantLong RX10 57 (1103515245), Cond.constantLong RX10 59 (12345), Cond.constantLong RX10 61 (2147483648)]
def wsL_law0_r17 : List Cond := [Cond.constant RX10 63 (65536), Cond.methodLink RX10 74 yX10_corrected, Cond.instanceMethod yX10_corrected, Cond.selects RX10 yX10_corrected yX10_corrected, Cond.code yX10_corrected cX10_corrected 7 (some .double), Cond.methodLink RL 114 yX9_forget, Cond.instanceMethod yX9_forget, Cond.selects RX9 yX9_forget yX9_forget, Cond.code yX9_forget cX9_forget 2 (some .int), Cond.methodLink RX9 153 yX5_clear, Cond.methodLink RL 117 yX10_forget, Cond.instanceMethod yX10_forget, Cond.selects RX10 yX10_forget yX10_forget, Cond.code yX10_forget cX10_forget 1 (some .int), Cond.methodLink RL 118 yL_append, Cond.static yL_append, Cond.codeWith yL_append cL_append 4 (some .int) [(0, 9, 12, 13), (0, 9, 15, 15)], Cond.methodLink RL 41 yX9_append, Cond.instanceMethod yX9_append, Cond.selects RX9 yX9_append yX9_append, Cond.code yX9_append cX9_append 2 (some .int), Cond.fieldLink RX9 156 "RareFaults$Text" "length" "I", Cond.methodLink RX9 161 yX8_add, Cond.instanceMethod yX8_add]
def wsL_law0_r18 : List Cond := [Cond.selects RX8 yX8_add yX8_add, Cond.code yX8_add cX8_add 2 none, Cond.methodLink RL 120 yX10_append, Cond.instanceMethod yX10_append, Cond.selects RX10 yX10_append yX10_append, Cond.code yX10_append cX10_append 2 (some .int), Cond.fieldLink RX10 126 "RareFaultsModel" "length" "I", Cond.methodLink RL 121 yX9_clearBuffer, Cond.instanceMethod yX9_clearBuffer, Cond.selects RX9 yX9_clearBuffer yX9_clearBuffer, Cond.code yX9_clearBuffer cX9_clearBuffer 2 (some .int), Cond.methodLink RX9 164 yX8_clear, Cond.instanceMethod yX8_clear, Cond.selects RX8 yX8_clear yX8_clear, Cond.code yX8_clear cX8_clear 1 none, Cond.methodLink RL 124 yX10_clearBuffer, Cond.instanceMethod yX10_clearBuffer, Cond.selects RX10 yX10_clearBuffer yX10_clearBuffer, Cond.code yX10_clearBuffer cX10_clearBuffer 2 (some .int), Cond.methodLink RL 125 yX9_firstError, Cond.instanceMethod yX9_firstError, Cond.selects RX9 yX9_firstError yX9_firstError, Cond.code yX9_firstError cX9_firstError 1 (some .int), Cond.classLink RX9 165 RX6]
def wsL_law0_r19 : List Cond := [Cond.instantiable RX6 3, Cond.initialized RX6, Cond.instanceMethod yX6_init, Cond.code yX6_init cX6_init 1 none, Cond.methodLink RX6 3 objectInit, Cond.fieldLink RX6 9 "RareFaults$Syntax" "parts" "I", Cond.fieldLink RX6 15 "RareFaults$Syntax" "digits" "I", Cond.fieldLink RX6 18 "RareFaults$Syntax" "isAboveZero" "Z", Cond.methodLink RX9 168 yX6_read, Cond.instanceMethod yX6_read, Cond.selects RX6 yX6_read yX6_read, Cond.code yX6_read cX6_read 3 (some .int), Cond.fieldLink RX6 22 "RareFaults$Text" "length" "I", Cond.methodLink RX6 27 yX8_codeAt, Cond.instanceMethod yX8_codeAt, Cond.selects RX8 yX8_codeAt yX8_codeAt, Cond.code yX8_codeAt cX8_codeAt 2 (some .int), Cond.methodLink RX6 31 yX6_accepts, Cond.instanceMethod yX6_accepts, Cond.selects RX6 yX6_accepts yX6_accepts, Cond.code yX6_accepts cX6_accepts 2 (some .boolean), Cond.methodLink RX6 35 yX6_acceptsNextPart, Cond.instanceMethod yX6_acceptsNextPart, Cond.selects RX6 yX6_acceptsNextPart yX6_acceptsNextPart]
def wsL_law0_r20 : List Cond := [Cond.code yX6_acceptsNextPart cX6_acceptsNextPart 2 (some .boolean), Cond.methodLink RX6 39 yX6_acceptsDigit, Cond.instanceMethod yX6_acceptsDigit, Cond.selects RX6 yX6_acceptsDigit yX6_acceptsDigit, Cond.code yX6_acceptsDigit cX6_acceptsDigit 2 (some .boolean), Cond.methodLink RL 128 yX10_firstError, Cond.instanceMethod yX10_firstError, Cond.selects RX10 yX10_firstError yX10_firstError, Cond.code yX10_firstError cX10_firstError 1 (some .int), Cond.methodLink RX10 144 yX10_rightUpTo, Cond.instanceMethod yX10_rightUpTo, Cond.selects RX10 yX10_rightUpTo yX10_rightUpTo, Cond.code yX10_rightUpTo cX10_rightUpTo 2 (some .int), Cond.fieldLink RX10 129 "RareFaultsModel" "read" "I", Cond.methodLink RX10 138 yX10_beginPart, Cond.instanceMethod yX10_beginPart, Cond.selects RX10 yX10_beginPart yX10_beginPart, Cond.code yX10_beginPart cX10_beginPart 2 none, Cond.fieldLink RX10 132 "RareFaultsModel" "loads" "I", Cond.fieldLink RX10 135 "RareFaultsModel" "total" "I", Cond.methodLink RX10 141 yX10_takes, Cond.instanceMethod yX10_takes, Cond.selects RX10 yX10_takes yX10_takes, Cond.code yX10_takes cX10_takes 4 (some .boolean)]
def wsL_law0_r21 : List Cond := [Cond.methodLink RL 129 yL_addAll, Cond.static yL_addAll, Cond.codeWith yL_addAll cL_addAll 3 (some .int) [(0, 8, 11, 13), (0, 8, 14, 15)], Cond.methodLink RL 44 yX9_addAll, Cond.instanceMethod yX9_addAll, Cond.selects RX9 yX9_addAll yX9_addAll, Cond.code yX9_addAll cX9_addAll 2 (some .int), Cond.fieldLink RX9 178 "RareFaults$Syntax" "parts" "I", Cond.methodLink RX9 172 yX6_isPartComplete, Cond.instanceMethod yX6_isPartComplete, Cond.selects RX6 yX6_isPartComplete yX6_isPartComplete, Cond.code yX6_isPartComplete cX6_isPartComplete 1 (some .boolean), Cond.methodLink RX9 181 yX8_addPartsTo, Cond.instanceMethod yX8_addPartsTo, Cond.selects RX8 yX8_addPartsTo yX8_addPartsTo, Cond.code yX8_addPartsTo cX8_addPartsTo 6 none, Cond.methodLink RX8 19 yX4_addEmptyPart, Cond.methodLink RX8 25 yX8_codeAt, Cond.methodLink RX8 29 yX4_setBothWeights, Cond.methodLink RL 132 yX10_addAll, Cond.instanceMethod yX10_addAll, Cond.selects RX10 yX10_addAll yX10_addAll, Cond.code yX10_addAll cX10_addAll 5 (some .int), Cond.methodLink RL 133 yL_undo]
def wsL_law0_r22 : List Cond := [Cond.static yL_undo, Cond.codeWith yL_undo cL_undo 3 (some .int) [(0, 8, 11, 15)], Cond.methodLink RL 48 yX9_undo, Cond.instanceMethod yX9_undo, Cond.selects RX9 yX9_undo yX9_undo, Cond.code yX9_undo cX9_undo 1 (some .int), Cond.fieldLink RX9 184 "RareFaults$History" "number" "I", Cond.methodLink RX9 187 yX2_restore, Cond.instanceMethod yX2_restore, Cond.selects RX2 yX2_restore yX2_restore, Cond.code yX2_restore cX2_restore 4 none, Cond.methodLink RL 135 yX10_undo, Cond.instanceMethod yX10_undo, Cond.selects RX10 yX10_undo yX10_undo, Cond.code yX10_undo cX10_undo 2 (some .int), Cond.methodLink RL 136 yL_part, Cond.static yL_part, Cond.codeWith yL_part cL_part 5 (some .int) [(0, 10, 13, 20), (0, 10, 17, 13)], Cond.methodLink RL 51 yX9_part, Cond.instanceMethod yX9_part, Cond.selects RX9 yX9_part yX9_part, Cond.code yX9_part cX9_part 3 (some .int), Cond.methodLink RX9 190 yX7_leastLoadOf, Cond.instanceMethod yX7_leastLoadOf]
def wsL_law0_r23 : List Cond := [Cond.selects RX7 yX7_leastLoadOf yX7_leastLoadOf, Cond.code yX7_leastLoadOf cX7_leastLoadOf 3 (some .int), Cond.methodLink RX9 193 yX7_greatestLoadOf, Cond.instanceMethod yX7_greatestLoadOf, Cond.selects RX7 yX7_greatestLoadOf yX7_greatestLoadOf, Cond.code yX7_greatestLoadOf cX7_greatestLoadOf 3 (some .int), Cond.methodLink RX9 196 yX7_momentOf, Cond.instanceMethod yX7_momentOf, Cond.selects RX7 yX7_momentOf yX7_momentOf, Cond.code yX7_momentOf cX7_momentOf 4 (some .int), Cond.methodLink RX9 199 yX5_latestLoadOf, Cond.instanceMethod yX5_latestLoadOf, Cond.selects RX5 yX5_latestLoadOf yX5_latestLoadOf, Cond.code yX5_latestLoadOf cX5_latestLoadOf 3 (some .int), Cond.methodLink RL 139 yX10_part, Cond.instanceMethod yX10_part, Cond.selects RX10 yX10_part yX10_part, Cond.code yX10_part cX10_part 3 (some .int), Cond.methodLink RX10 157 yX10_partNow, Cond.instanceMethod yX10_partNow, Cond.selects RX10 yX10_partNow yX10_partNow, Cond.code yX10_partNow cX10_partNow 3 (some .int), Cond.methodLink RX10 147 yX10_leastLoad, Cond.instanceMethod yX10_leastLoad]
def wsL_law0_r24 : List Cond := [Cond.selects RX10 yX10_leastLoad yX10_leastLoad, Cond.code yX10_leastLoad cX10_leastLoad 3 (some .int), Cond.methodLink RX10 150 yX10_greatestLoad, Cond.instanceMethod yX10_greatestLoad, Cond.selects RX10 yX10_greatestLoad yX10_greatestLoad, Cond.code yX10_greatestLoad cX10_greatestLoad 3 (some .int), Cond.methodLink RX10 153 yX10_loadSum, Cond.instanceMethod yX10_loadSum, Cond.selects RX10 yX10_loadSum yX10_loadSum, Cond.code yX10_loadSum cX10_loadSum 5 (some .int), Cond.methodLink RL 140 yL_weight, Cond.static yL_weight, Cond.codeWith yL_weight cL_weight 6 (some .int) [(0, 12, 15, 20)], Cond.methodLink RL 55 yX9_weight, Cond.instanceMethod yX9_weight, Cond.selects RX9 yX9_weight yX9_weight, Cond.code yX9_weight cX9_weight 4 (some .int), Cond.methodLink RL 143 yX10_weight, Cond.instanceMethod yX10_weight, Cond.selects RX10 yX10_weight yX10_weight, Cond.code yX10_weight cX10_weight 4 (some .int), Cond.methodLink RL 144 yL_ways, Cond.static yL_ways, Cond.codeWith yL_ways cL_ways 5 (some .int) [(0, 9, 12, 13)]]
def wsL_law0_r25 : List Cond := [Cond.methodLink RL 59 yX9_ways, Cond.instanceMethod yX9_ways, Cond.selects RX9 yX9_ways yX9_ways, Cond.code yX9_ways cX9_ways 3 (some .long), Cond.methodLink RX9 202 yX1_fill, Cond.instanceMethod yX1_fill, Cond.selects RX1 yX1_fill yX1_fill, Cond.code yX1_fill cX1_fill 4 none, Cond.fieldLink RX1 15 "RareFaults$Plant" "parts" "I", Cond.methodLink RX1 21 yX1_addPartOf, Cond.instanceMethod yX1_addPartOf, Cond.selects RX1 yX1_addPartOf yX1_addPartOf, Cond.code yX1_addPartOf cX1_addPartOf 7 none, Cond.fieldLink RX1 25 "RareFaults$Plant" "weights" "LRareFaults$Table;", Cond.methodLink RX1 29 yX7_get, Cond.methodLink RX1 35 yX1_waysOf, Cond.instanceMethod yX1_waysOf, Cond.selects RX1 yX1_waysOf yX1_waysOf, Cond.code yX1_waysOf cX1_waysOf 2 (some .long), Cond.methodLink RX9 206 yX1_waysFrom, Cond.instanceMethod yX1_waysFrom, Cond.selects RX1 yX1_waysFrom yX1_waysFrom, Cond.code yX1_waysFrom cX1_waysFrom 5 (some .long), Cond.methodLink RX1 39 Lib.Math.max.name]
def wsL_law0_r26 : List Cond := [Cond.static Lib.Math.max.name, Cond.code Lib.Math.max.name Lib.Math.max.code 2 (some .int), Cond.methodLink RX9 210 yX1_waysOf, Cond.methodLink RL 147 yX10_ways, Cond.instanceMethod yX10_ways, Cond.selects RX10 yX10_ways yX10_ways, Cond.code yX10_ways cX10_ways 3 (some .long), Cond.methodLink RX10 160 yX10_waysNow, Cond.instanceMethod yX10_waysNow, Cond.selects RX10 yX10_waysNow yX10_waysNow, Cond.code yX10_waysNow cX10_waysNow 3 (some .long), Cond.methodLink RX10 82 yX10_layWays, Cond.instanceMethod yX10_layWays, Cond.selects RX10 yX10_layWays yX10_layWays, Cond.code yX10_layWays cX10_layWays 3 none, Cond.methodLink RX10 78 yX10_addPartWays, Cond.instanceMethod yX10_addPartWays, Cond.selects RX10 yX10_addPartWays yX10_addPartWays, Cond.code yX10_addPartWays cX10_addPartWays 6 none, Cond.methodLink RX10 85 yX10_waysFrom, Cond.instanceMethod yX10_waysFrom, Cond.selects RX10 yX10_waysFrom yX10_waysFrom, Cond.code yX10_waysFrom cX10_waysFrom 5 (some .long), Cond.methodLink RL 148 yL_likeliest]
def wsL_law0_r27 : List Cond := [Cond.static yL_likeliest, Cond.codeWith yL_likeliest cL_likeliest 4 (some .int) [(0, 9, 12, 20)], Cond.methodLink RL 63 yX9_likeliest, Cond.instanceMethod yX9_likeliest, Cond.selects RX9 yX9_likeliest yX9_likeliest, Cond.code yX9_likeliest cX9_likeliest 2 (some .int), Cond.methodLink RX9 213 yX3_fill, Cond.instanceMethod yX3_fill, Cond.selects RX3 yX3_fill yX3_fill, Cond.code yX3_fill cX3_fill 4 none, Cond.fieldLink RX3 15 "RareFaults$Plant" "parts" "I", Cond.methodLink RX3 21 yX3_setMost, Cond.instanceMethod yX3_setMost, Cond.selects RX3 yX3_setMost yX3_setMost, Cond.code yX3_setMost cX3_setMost 4 none, Cond.methodLink RX3 25 yX3_mostOfLoads, Cond.instanceMethod yX3_mostOfLoads, Cond.selects RX3 yX3_mostOfLoads yX3_mostOfLoads, Cond.code yX3_mostOfLoads cX3_mostOfLoads 6 (some .int), Cond.methodLink RX3 43 Lib.Math.max.name, Cond.methodLink RX3 48 yX3_waysWith, Cond.instanceMethod yX3_waysWith, Cond.selects RX3 yX3_waysWith yX3_waysWith, Cond.code yX3_waysWith cX3_waysWith 5 (some .int)]
def wsL_law0_r28 : List Cond := [Cond.fieldLink RX3 52 "RareFaults$Plant" "weights" "LRareFaults$Table;", Cond.methodLink RX3 56 yX7_get, Cond.methodLink RX3 29 yX3_getMost, Cond.instanceMethod yX3_getMost, Cond.selects RX3 yX3_getMost yX3_getMost, Cond.code yX3_getMost cX3_getMost 4 (some .int), Cond.methodLink RX9 215 yX3_loadOf, Cond.instanceMethod yX3_loadOf, Cond.selects RX3 yX3_loadOf yX3_loadOf, Cond.code yX3_loadOf cX3_loadOf 5 (some .int), Cond.fieldLink RX3 33 "RareFaults$Plant" "limit" "I", Cond.methodLink RX3 36 yX3_waysFor, Cond.instanceMethod yX3_waysFor, Cond.selects RX3 yX3_waysFor yX3_waysFor, Cond.code yX3_waysFor cX3_waysFor 2 (some .int), Cond.methodLink RX3 40 yX3_firstLoad, Cond.instanceMethod yX3_firstLoad, Cond.selects RX3 yX3_firstLoad yX3_firstLoad, Cond.code yX3_firstLoad cX3_firstLoad 5 (some .int), Cond.methodLink RL 150 yX10_likeliest, Cond.instanceMethod yX10_likeliest, Cond.selects RX10 yX10_likeliest yX10_likeliest, Cond.code yX10_likeliest cX10_likeliest 2 (some .int), Cond.methodLink RX10 164 yX10_likeliestLoad]
def wsL_law0_r29 : List Cond := [Cond.instanceMethod yX10_likeliestLoad, Cond.selects RX10 yX10_likeliestLoad yX10_likeliestLoad, Cond.code yX10_likeliestLoad cX10_likeliestLoad 5 (some .int), Cond.methodLink RX10 96 yX10_likeliestWays, Cond.instanceMethod yX10_likeliestWays, Cond.selects RX10 yX10_likeliestWays yX10_likeliestWays, Cond.code yX10_likeliestWays cX10_likeliestWays 1 (some .int), Cond.methodLink RX10 93 yX10_layMost, Cond.instanceMethod yX10_layMost, Cond.selects RX10 yX10_layMost yX10_layMost, Cond.code yX10_layMost cX10_layMost 6 none, Cond.methodLink RX10 89 yX10_mostBy, Cond.instanceMethod yX10_mostBy, Cond.selects RX10 yX10_mostBy yX10_mostBy, Cond.code yX10_mostBy cX10_mostBy 5 (some .int), Cond.methodLink RL 151 yL_count, Cond.static yL_count, Cond.codeWith yL_count cL_count 4 (some .int) [(0, 9, 12, 13)], Cond.methodLink RL 66 yX9_count, Cond.instanceMethod yX9_count, Cond.selects RX9 yX9_count yX9_count, Cond.code yX9_count cX9_count 2 (some .int), Cond.methodLink RX9 219 yX4_leastSum, Cond.instanceMethod yX4_leastSum]
def wsL_law0_r30 : List Cond := [Cond.selects RX4 yX4_leastSum yX4_leastSum, Cond.code yX4_leastSum cX4_leastSum 3 (some .int), Cond.methodLink RX4 62 yX7_leastLoadOf, Cond.methodLink RX9 222 yX4_greatestSum, Cond.instanceMethod yX4_greatestSum, Cond.selects RX4 yX4_greatestSum yX4_greatestSum, Cond.code yX4_greatestSum cX4_greatestSum 3 (some .int), Cond.methodLink RX4 65 yX7_greatestLoadOf, Cond.methodLink RX9 225 yX3_waysFor, Cond.methodLink RL 153 yX10_count, Cond.instanceMethod yX10_count, Cond.selects RX10 yX10_count yX10_count, Cond.code yX10_count cX10_count 2 (some .int), Cond.methodLink RX10 171 yX10_counted, Cond.instanceMethod yX10_counted, Cond.selects RX10 yX10_counted yX10_counted, Cond.code yX10_counted cX10_counted 2 (some .int), Cond.methodLink RX10 167 yX10_endSum, Cond.instanceMethod yX10_endSum, Cond.selects RX10 yX10_endSum yX10_endSum, Cond.code yX10_endSum cX10_endSum 5 (some .int), Cond.methodLink RL 154 yL_measure, Cond.static yL_measure, Cond.codeWith yL_measure cL_measure 4 (some .int) [(0, 8, 11, 13)]]
def wsL_law0_r31 : List Cond := [Cond.methodLink RL 69 yX9_measure, Cond.instanceMethod yX9_measure, Cond.selects RX9 yX9_measure yX9_measure, Cond.code yX9_measure cX9_measure 3 (some .double), Cond.fieldLink RX9 232 "RareFaults$Samples" "faultSum" "D", Cond.fieldLink RX9 240 "RareFaults$Samples" "sum" "D", Cond.fieldLink RX9 247 "RareFaults$Samples" "latestCorrection" "D", Cond.methodLink RX9 228 yX9_oddsFor, Cond.instanceMethod yX9_oddsFor, Cond.selects RX9 yX9_oddsFor yX9_oddsFor, Cond.code yX9_oddsFor cX9_oddsFor 3 (some .double), Cond.methodLink RX9 315 yX1_oddsFrom, Cond.instanceMethod yX1_oddsFrom, Cond.selects RX1 yX1_oddsFrom yX1_oddsFrom, Cond.code yX1_oddsFrom cX1_oddsFrom 4 (some .double), Cond.methodLink RX1 44 yX1_waysFrom, Cond.methodLink RX9 236 yX5_shareOf, Cond.instanceMethod yX5_shareOf, Cond.selects RX5 yX5_shareOf yX5_shareOf, Cond.code yX5_shareOf cX5_shareOf 3 (some .double), Cond.methodLink RX9 243 yX5_effectiveNumber, Cond.instanceMethod yX5_effectiveNumber, Cond.selects RX5 yX5_effectiveNumber yX5_effectiveNumber, Cond.code yX5_effectiveNumber cX5_effectiveNumber 1 (some .double)]
def wsL_law0_r32 : List Cond := [Cond.methodLink RL 157 yX10_measure, Cond.instanceMethod yX10_measure, Cond.selects RX10 yX10_measure yX10_measure, Cond.code yX10_measure cX10_measure 2 (some .double), Cond.methodLink RX10 186 yX10_measured, Cond.instanceMethod yX10_measured, Cond.selects RX10 yX10_measured yX10_measured, Cond.code yX10_measured cX10_measured 2 (some .double), Cond.methodLink RX10 174 yX10_oddsBy, Cond.instanceMethod yX10_oddsBy, Cond.selects RX10 yX10_oddsBy yX10_oddsBy, Cond.code yX10_oddsBy cX10_oddsBy 3 (some .double), Cond.methodLink RX10 178 yX10_bySamples, Cond.instanceMethod yX10_bySamples, Cond.selects RX10 yX10_bySamples yX10_bySamples, Cond.code yX10_bySamples cX10_bySamples 3 (some .double), Cond.methodLink RX10 182 yX10_effective, Cond.instanceMethod yX10_effective, Cond.selects RX10 yX10_effective yX10_effective, Cond.code yX10_effective cX10_effective 1 (some .double), Cond.methodLink RL 158 yL_ifLimit, Cond.static yL_ifLimit, Cond.codeWith yL_ifLimit cL_ifLimit 4 (some .int) [(0, 8, 11, 13)], Cond.methodLink RL 73 yX9_ifLimit]
def wsL_law0_r33 : List Cond := [Cond.instanceMethod yX9_ifLimit, Cond.selects RX9 yX9_ifLimit yX9_ifLimit, Cond.code yX9_ifLimit cX9_ifLimit 2 (some .double), Cond.methodLink RL 160 yX10_ifLimit, Cond.instanceMethod yX10_ifLimit, Cond.selects RX10 yX10_ifLimit yX10_ifLimit, Cond.code yX10_ifLimit cX10_ifLimit 2 (some .double), Cond.methodLink RL 161 yL_limitFor, Cond.static yL_limitFor, Cond.codeWith yL_limitFor cL_limitFor 4 (some .int) [(0, 9, 12, 13)], Cond.methodLink RL 76 yX9_limitFor, Cond.instanceMethod yX9_limitFor, Cond.selects RX9 yX9_limitFor yX9_limitFor, Cond.code yX9_limitFor cX9_limitFor 5 (some .int), Cond.constantLong RX9 250 (1000), Cond.methodLink RL 163 yX10_limitFor, Cond.instanceMethod yX10_limitFor, Cond.selects RX10 yX10_limitFor yX10_limitFor, Cond.code yX10_limitFor cX10_limitFor 2 (some .int), Cond.methodLink RX10 192 yX10_limitNow, Cond.instanceMethod yX10_limitNow, Cond.selects RX10 yX10_limitNow yX10_limitNow, Cond.code yX10_limitNow cX10_limitNow 3 (some .int), Cond.constantLong RX10 190 (1000)]
def wsL_law0_r34 : List Cond := [Cond.methodLink RL 164 yX9_greatest, Cond.instanceMethod yX9_greatest, Cond.selects RX9 yX9_greatest yX9_greatest, Cond.code yX9_greatest cX9_greatest 2 (some .double), Cond.methodLink RX9 252 yX0_fill, Cond.instanceMethod yX0_fill, Cond.selects RX0 yX0_fill yX0_fill, Cond.code yX0_fill cX0_fill 3 none, Cond.fieldLink RX0 15 "RareFaults$Plant" "parts" "I", Cond.methodLink RX0 21 yX0_addPartOf, Cond.instanceMethod yX0_addPartOf, Cond.selects RX0 yX0_addPartOf yX0_addPartOf, Cond.code yX0_addPartOf cX0_addPartOf 9 none, Cond.methodLink RX0 25 yX0_correctionOf, Cond.instanceMethod yX0_correctionOf, Cond.selects RX0 yX0_correctionOf yX0_correctionOf, Cond.code yX0_correctionOf cX0_correctionOf 2 (some .double), Cond.methodLink RX0 29 yX4_corrected, Cond.methodLink RX9 253 yX0_greatestFrom, Cond.instanceMethod yX0_greatestFrom, Cond.selects RX0 yX0_greatestFrom yX0_greatestFrom, Cond.code yX0_greatestFrom cX0_greatestFrom 5 (some .double), Cond.methodLink RX0 33 Lib.Math.max.name, Cond.methodLink RL 168 yX10_greatest]
def wsL_law0_r35 : List Cond := [Cond.instanceMethod yX10_greatest, Cond.selects RX10 yX10_greatest yX10_greatest, Cond.code yX10_greatest cX10_greatest 2 (some .double), Cond.methodLink RX10 203 yX10_greatestNow, Cond.instanceMethod yX10_greatestNow, Cond.selects RX10 yX10_greatestNow yX10_greatestNow, Cond.code yX10_greatestNow cX10_greatestNow 6 (some .double), Cond.methodLink RX10 195 yX10_correctionOf, Cond.instanceMethod yX10_correctionOf, Cond.selects RX10 yX10_correctionOf yX10_correctionOf, Cond.code yX10_correctionOf cX10_correctionOf 6 (some .double), Cond.methodLink RX10 199 yX10_goesOn, Cond.instanceMethod yX10_goesOn, Cond.selects RX10 yX10_goesOn yX10_goesOn, Cond.code yX10_goesOn cX10_goesOn 2 (some .boolean), Cond.methodLink RL 169 yX9_slightest, Cond.instanceMethod yX9_slightest, Cond.selects RX9 yX9_slightest yX9_slightest, Cond.code yX9_slightest cX9_slightest 7 (some .int), Cond.constantDouble RX9 257 (13830554455654793216), Cond.methodLink RL 172 yX10_slightest, Cond.instanceMethod yX10_slightest, Cond.selects RX10 yX10_slightest yX10_slightest, Cond.code yX10_slightest cX10_slightest 1 (some .int)]
def wsL_law0_r36 : List Cond := [Cond.methodLink RX10 206 yX10_slightestNow, Cond.instanceMethod yX10_slightestNow, Cond.selects RX10 yX10_slightestNow yX10_slightestNow, Cond.code yX10_slightestNow cX10_slightestNow 8 (some .int), Cond.methodLink RL 173 yX9_digest, Cond.instanceMethod yX9_digest, Cond.selects RX9 yX9_digest yX9_digest, Cond.code yX9_digest cX9_digest 4 (some .long), Cond.constantLong RX9 259 (2657), Cond.methodLink RX9 261 yX9_count, Cond.methodLink RX9 264 yX9_hashWith, Cond.static yX9_hashWith, Cond.code yX9_hashWith cX9_hashWith 4 (some .long), Cond.constantLong RX9 305 (31), Cond.methodLink RX9 268 yX9_hashWithPart, Cond.instanceMethod yX9_hashWithPart, Cond.selects RX9 yX9_hashWithPart yX9_hashWithPart, Cond.code yX9_hashWithPart cX9_hashWithPart 7 (some .long), Cond.methodLink RX9 299 yX9_part, Cond.methodLink RX9 302 yX9_likeliest, Cond.methodLink RX9 272 yX9_ways, Cond.methodLink RX9 276 yX9_measure, Cond.methodLink RX9 279 yX9_bitsOf, Cond.static yX9_bitsOf]
def wsL_law0_r37 : List Cond := [Cond.code yX9_bitsOf cX9_bitsOf 9 (some .long), Cond.constantDouble RX9 307 (4611686018427387904), Cond.constantDouble RX9 309 (4841369599423283200), Cond.constantLong RX9 313 (-9223372036854775808), Cond.methodLink RX9 283 yX9_ifLimit, Cond.methodLink RX9 286 yX9_greatest, Cond.methodLink RX9 290 yX9_limitFor, Cond.methodLink RX9 293 yX9_slightest, Cond.methodLink RX9 296 yX8_codeAt, Cond.methodLink RL 177 yX10_digest, Cond.instanceMethod yX10_digest, Cond.selects RX10 yX10_digest yX10_digest, Cond.code yX10_digest cX10_digest 2 (some .long), Cond.constantLong RX10 219 (2657), Cond.fieldLink RX10 211 "RareFaultsModel" "hash" "J", Cond.methodLink RX10 215 yX10_mix, Cond.instanceMethod yX10_mix, Cond.selects RX10 yX10_mix yX10_mix, Cond.code yX10_mix cX10_mix 3 none, Cond.constantLong RX10 209 (31), Cond.methodLink RX10 221 yX10_mixPart, Cond.instanceMethod yX10_mixPart, Cond.selects RX10 yX10_mixPart yX10_mixPart, Cond.code yX10_mixPart cX10_mixPart 3 none]
def wsL_law0_r38 : List Cond := [Cond.methodLink RX10 224 yJxe99ae_doubleToLongBits_ccdee, Cond.static yJxe99ae_doubleToLongBits_ccdee, Cond.initialized RJxe99ae, Cond.code yJxe99ae_doubleToLongBits_ccdee cJxe99ae_doubleToLongBits_ccdee 2 (some .long), Cond.methodLink RJxe99ae 134 ⟨"java/lang/Double", "doubleToRawLongBits", "(D)J"⟩, Cond.native ⟨"java/lang/Double", "doubleToRawLongBits", "(D)J"⟩, Cond.static ⟨"java/lang/Double", "doubleToRawLongBits", "(D)J"⟩, Cond.initialized "java/lang/Double", Cond.constantLong RJxe99ae 137 (9221120237041090560), Cond.methodLink RJxe99ae 122 yJxe99ae_isNaN_b9ae7, Cond.static yJxe99ae_isNaN_b9ae7, Cond.code yJxe99ae_isNaN_b9ae7 cJxe99ae_isNaN_b9ae7 2 (some .boolean)]
def wsL_law0 : List Cond := (wsL_law0_r1 ++ (wsL_law0_r2 ++ (wsL_law0_r3 ++ (wsL_law0_r4 ++ (wsL_law0_r5 ++ (wsL_law0_r6 ++ (wsL_law0_r7 ++ (wsL_law0_r8 ++ (wsL_law0_r9 ++ (wsL_law0_r10 ++ (wsL_law0_r11 ++ (wsL_law0_r12 ++ (wsL_law0_r13 ++ (wsL_law0_r14 ++ (wsL_law0_r15 ++ (wsL_law0_r16 ++ (wsL_law0_r17 ++ (wsL_law0_r18 ++ (wsL_law0_r19 ++ (wsL_law0_r20 ++ (wsL_law0_r21 ++ (wsL_law0_r22 ++ (wsL_law0_r23 ++ (wsL_law0_r24 ++ (wsL_law0_r25 ++ (wsL_law0_r26 ++ (wsL_law0_r27 ++ (wsL_law0_r28 ++ (wsL_law0_r29 ++ (wsL_law0_r30 ++ (wsL_law0_r31 ++ (wsL_law0_r32 ++ (wsL_law0_r33 ++ (wsL_law0_r34 ++ (wsL_law0_r35 ++ (wsL_law0_r36 ++ (wsL_law0_r37 ++ wsL_law0_r38))))))))))))))))))))))))))))))))))))) ++ wsX90 ++ wsX100 ++ wsX40 ++ wsX20 ++ wsX80 ++ wsX10 ++ wsX30 ++ wsX00 ++ wsX70 ++ wsX50 ++ wsX60 ++ ([] : List Cond)
def wsL_law : List Cond := wsL_law0 ++ (vx_atS RX9 55 "java/lang/IllegalArgumentException" ["java/lang/RuntimeException", "java/lang/Exception"]).filter goodWord ++ (vx_atS RX9 66 "java/lang/IllegalStateException" ["java/lang/RuntimeException", "java/lang/Exception"]).filter goodWord ++ (vx_atS RX9 322 "java/lang/IndexOutOfBoundsException" ["java/lang/RuntimeException", "java/lang/Exception"]).filter goodWord
theorem inlX0 : ∀ w ∈ wsX00, w ∈ wsL_law := fun _ h => List.mem_append_left _ (List.mem_append_left _ (List.mem_append_left _ (List.mem_append_left _ (List.mem_append_left _ (List.mem_append_left _ (List.mem_append_left _ (List.mem_append_right _ h)))))))
theorem inlX1 : ∀ w ∈ wsX10, w ∈ wsL_law := fun _ h => List.mem_append_left _ (List.mem_append_left _ (List.mem_append_left _ (List.mem_append_left _ (List.mem_append_left _ (List.mem_append_left _ (List.mem_append_left _ (List.mem_append_left _ (List.mem_append_left _ (List.mem_append_right _ h)))))))))
theorem inlX2 : ∀ w ∈ wsX20, w ∈ wsL_law := fun _ h => List.mem_append_left _ (List.mem_append_left _ (List.mem_append_left _ (List.mem_append_left _ (List.mem_append_left _ (List.mem_append_left _ (List.mem_append_left _ (List.mem_append_left _ (List.mem_append_left _ (List.mem_append_left _ (List.mem_append_left _ (List.mem_append_right _ h)))))))))))
theorem inlX3 : ∀ w ∈ wsX30, w ∈ wsL_law := fun _ h => List.mem_append_left _ (List.mem_append_left _ (List.mem_append_left _ (List.mem_append_left _ (List.mem_append_left _ (List.mem_append_left _ (List.mem_append_left _ (List.mem_append_left _ (List.mem_append_right _ h))))))))
theorem inlX4 : ∀ w ∈ wsX40, w ∈ wsL_law := fun _ h => List.mem_append_left _ (List.mem_append_left _ (List.mem_append_left _ (List.mem_append_left _ (List.mem_append_left _ (List.mem_append_left _ (List.mem_append_left _ (List.mem_append_left _ (List.mem_append_left _ (List.mem_append_left _ (List.mem_append_left _ (List.mem_append_left _ (List.mem_append_right _ h))))))))))))
theorem inlX5 : ∀ w ∈ wsX50, w ∈ wsL_law := fun _ h => List.mem_append_left _ (List.mem_append_left _ (List.mem_append_left _ (List.mem_append_left _ (List.mem_append_left _ (List.mem_append_right _ h)))))
theorem inlX6 : ∀ w ∈ wsX60, w ∈ wsL_law := fun _ h => List.mem_append_left _ (List.mem_append_left _ (List.mem_append_left _ (List.mem_append_left _ (List.mem_append_right _ h))))
theorem inlX7 : ∀ w ∈ wsX70, w ∈ wsL_law := fun _ h => List.mem_append_left _ (List.mem_append_left _ (List.mem_append_left _ (List.mem_append_left _ (List.mem_append_left _ (List.mem_append_left _ (List.mem_append_right _ h))))))
theorem inlX8 : ∀ w ∈ wsX80, w ∈ wsL_law := fun _ h => List.mem_append_left _ (List.mem_append_left _ (List.mem_append_left _ (List.mem_append_left _ (List.mem_append_left _ (List.mem_append_left _ (List.mem_append_left _ (List.mem_append_left _ (List.mem_append_left _ (List.mem_append_left _ (List.mem_append_right _ h))))))))))
theorem inlX9 : ∀ w ∈ wsX90, w ∈ wsL_law := fun _ h => List.mem_append_left _ (List.mem_append_left _ (List.mem_append_left _ (List.mem_append_left _ (List.mem_append_left _ (List.mem_append_left _ (List.mem_append_left _ (List.mem_append_left _ (List.mem_append_left _ (List.mem_append_left _ (List.mem_append_left _ (List.mem_append_left _ (List.mem_append_left _ (List.mem_append_left _ (List.mem_append_right _ h))))))))))))))
theorem inlX10 : ∀ w ∈ wsX100, w ∈ wsL_law := fun _ h => List.mem_append_left _ (List.mem_append_left _ (List.mem_append_left _ (List.mem_append_left _ (List.mem_append_left _ (List.mem_append_left _ (List.mem_append_left _ (List.mem_append_left _ (List.mem_append_left _ (List.mem_append_left _ (List.mem_append_left _ (List.mem_append_left _ (List.mem_append_left _ (List.mem_append_right _ h)))))))))))))
set_option maxRecDepth 20000 in
theorem ggJxe99ae_doubleToLongBits_ccdee_Jxe99ae_isNaN_b9ae7 : GoodIn wsJxe99ae_doubleToLongBits_ccdee wsJxe99ae_isNaN_b9ae7 := goodIn_r _ [9] (by decide +kernel) (by decide +kernel)
set_option maxRecDepth 20000 in
theorem gJxe99ae_doubleToLongBits_ccdee_Jxe99ae_isNaN_b9ae7 : GoodIn wsJxe99ae_doubleToLongBits_ccdee (va_wsS RJxe99ae 122 yJxe99ae_isNaN_b9ae7 wsJxe99ae_isNaN_b9ae7) := goodIn_app (goodIn_of _ (by decide +kernel)) ggJxe99ae_doubleToLongBits_ccdee_Jxe99ae_isNaN_b9ae7
abbrev vwCl : List vw_C := [(RX0, TX0, 1), (RX1, TX1, 1), (RX2, TX2, 3), (RX3, TX3, 1), (RX4, TX4, 6), (RX5, TX5, 7), (RX6, TX6, 3), (RX7, TX7, 1), (RX8, TX8, 2), (RX9, TX9, 6), (RX10, TX10, 16)]
end
section
theorem dX0_init_0 : decode cX0_init 0 = .ok (.aload_n 0, 1) := by decide +kernel
theorem dX0_init_1 : decode cX0_init 1 = .ok (.invokespecial 3, 3) := by decide +kernel
theorem dX0_init_4 : decode cX0_init 4 = .ok (.aload_n 0, 1) := by decide +kernel
theorem dX0_init_5 : decode cX0_init 5 = .ok (.bipush 31, 2) := by decide +kernel
theorem dX0_init_7 : decode cX0_init 7 = .ok (.newarray .double, 2) := by decide +kernel
theorem dX0_init_9 : decode cX0_init 9 = .ok (.putfield 9, 3) := by decide +kernel
theorem dX0_init_12 : decode cX0_init 12 = .ok (.return_, 1) := by decide +kernel
theorem dX0_fill_0 : decode cX0_fill 0 = .ok (.iconst 0, 1) := by decide +kernel
theorem dX0_fill_1 : decode cX0_fill 1 = .ok (.istore_n 2, 1) := by decide +kernel
theorem dX0_fill_2 : decode cX0_fill 2 = .ok (.iload_n 2, 1) := by decide +kernel
theorem dX0_fill_3 : decode cX0_fill 3 = .ok (.aload_n 0, 1) := by decide +kernel
theorem dX0_fill_4 : decode cX0_fill 4 = .ok (.getfield 9, 3) := by decide +kernel
theorem dX0_fill_7 : decode cX0_fill 7 = .ok (.arraylength, 1) := by decide +kernel
theorem dX0_fill_8 : decode cX0_fill 8 = .ok (.if_icmp .ge 24, 3) := by decide +kernel
theorem dX0_fill_11 : decode cX0_fill 11 = .ok (.aload_n 0, 1) := by decide +kernel
theorem dX0_fill_12 : decode cX0_fill 12 = .ok (.getfield 9, 3) := by decide +kernel
theorem dX0_fill_15 : decode cX0_fill 15 = .ok (.iload_n 2, 1) := by decide +kernel
theorem dX0_fill_16 : decode cX0_fill 16 = .ok (.iload_n 2, 1) := by decide +kernel
theorem dX0_fill_17 : decode cX0_fill 17 = .ok (.ifCond .ne 7, 3) := by decide +kernel
theorem dX0_fill_20 : decode cX0_fill 20 = .ok (.dconst 1, 1) := by decide +kernel
theorem dX0_fill_21 : decode cX0_fill 21 = .ok (.goto 4, 3) := by decide +kernel
theorem dX0_fill_24 : decode cX0_fill 24 = .ok (.dconst 0, 1) := by decide +kernel
theorem dX0_fill_25 : decode cX0_fill 25 = .ok (.dastore, 1) := by decide +kernel
theorem dX0_fill_26 : decode cX0_fill 26 = .ok (.iinc 2 1, 3) := by decide +kernel
theorem dX0_fill_29 : decode cX0_fill 29 = .ok (.goto (-27), 3) := by decide +kernel
theorem dX0_fill_32 : decode cX0_fill 32 = .ok (.iconst 0, 1) := by decide +kernel
theorem dX0_fill_33 : decode cX0_fill 33 = .ok (.istore_n 2, 1) := by decide +kernel
theorem dX0_fill_34 : decode cX0_fill 34 = .ok (.iload_n 2, 1) := by decide +kernel
theorem dX0_fill_35 : decode cX0_fill 35 = .ok (.aload_n 1, 1) := by decide +kernel
theorem dX0_fill_36 : decode cX0_fill 36 = .ok (.getfield 15, 3) := by decide +kernel
theorem dX0_fill_39 : decode cX0_fill 39 = .ok (.if_icmp .ge 15, 3) := by decide +kernel
theorem dX0_fill_42 : decode cX0_fill 42 = .ok (.aload_n 0, 1) := by decide +kernel
theorem dX0_fill_43 : decode cX0_fill 43 = .ok (.aload_n 1, 1) := by decide +kernel
theorem dX0_fill_44 : decode cX0_fill 44 = .ok (.iload_n 2, 1) := by decide +kernel
theorem dX0_fill_45 : decode cX0_fill 45 = .ok (.invokevirtual 21, 3) := by decide +kernel
theorem dX0_fill_48 : decode cX0_fill 48 = .ok (.iinc 2 1, 3) := by decide +kernel
theorem dX0_fill_51 : decode cX0_fill 51 = .ok (.goto (-17), 3) := by decide +kernel
theorem dX0_fill_54 : decode cX0_fill 54 = .ok (.return_, 1) := by decide +kernel
theorem dX0_addPartOf_0 : decode cX0_addPartOf 0 = .ok (.aload_n 0, 1) := by decide +kernel
theorem dX0_addPartOf_1 : decode cX0_addPartOf 1 = .ok (.getfield 9, 3) := by decide +kernel
theorem dX0_addPartOf_4 : decode cX0_addPartOf 4 = .ok (.arraylength, 1) := by decide +kernel
theorem dX0_addPartOf_5 : decode cX0_addPartOf 5 = .ok (.iconst 1, 1) := by decide +kernel
theorem dX0_addPartOf_6 : decode cX0_addPartOf 6 = .ok (.isub, 1) := by decide +kernel
theorem dX0_addPartOf_7 : decode cX0_addPartOf 7 = .ok (.istore_n 3, 1) := by decide +kernel
theorem dX0_addPartOf_8 : decode cX0_addPartOf 8 = .ok (.iload_n 3, 1) := by decide +kernel
theorem dX0_addPartOf_9 : decode cX0_addPartOf 9 = .ok (.ifCond .lt 70, 3) := by decide +kernel
theorem dX0_addPartOf_12 : decode cX0_addPartOf 12 = .ok (.dconst 0, 1) := by decide +kernel
theorem dX0_addPartOf_13 : decode cX0_addPartOf 13 = .ok (.dstore 4, 2) := by decide +kernel
theorem dX0_addPartOf_15 : decode cX0_addPartOf 15 = .ok (.iconst 0, 1) := by decide +kernel
theorem dX0_addPartOf_16 : decode cX0_addPartOf 16 = .ok (.istore 6, 2) := by decide +kernel
theorem dX0_addPartOf_18 : decode cX0_addPartOf 18 = .ok (.iload 6, 2) := by decide +kernel
theorem dX0_addPartOf_20 : decode cX0_addPartOf 20 = .ok (.bipush 6, 2) := by decide +kernel
theorem dX0_addPartOf_22 : decode cX0_addPartOf 22 = .ok (.if_icmp .ge 43, 3) := by decide +kernel
theorem dX0_addPartOf_25 : decode cX0_addPartOf 25 = .ok (.aload_n 1, 1) := by decide +kernel
theorem dX0_addPartOf_26 : decode cX0_addPartOf 26 = .ok (.aload_n 0, 1) := by decide +kernel
theorem dX0_addPartOf_27 : decode cX0_addPartOf 27 = .ok (.iload_n 3, 1) := by decide +kernel
theorem dX0_addPartOf_28 : decode cX0_addPartOf 28 = .ok (.iload 6, 2) := by decide +kernel
theorem dX0_addPartOf_30 : decode cX0_addPartOf 30 = .ok (.isub, 1) := by decide +kernel
theorem dX0_addPartOf_31 : decode cX0_addPartOf 31 = .ok (.invokevirtual 25, 3) := by decide +kernel
theorem dX0_addPartOf_34 : decode cX0_addPartOf 34 = .ok (.iload_n 2, 1) := by decide +kernel
theorem dX0_addPartOf_35 : decode cX0_addPartOf 35 = .ok (.iload 6, 2) := by decide +kernel
theorem dX0_addPartOf_37 : decode cX0_addPartOf 37 = .ok (.invokevirtual 29, 3) := by decide +kernel
theorem dX0_addPartOf_40 : decode cX0_addPartOf 40 = .ok (.dstore 7, 2) := by decide +kernel
theorem dX0_addPartOf_42 : decode cX0_addPartOf 42 = .ok (.dload 7, 2) := by decide +kernel
theorem dX0_addPartOf_44 : decode cX0_addPartOf 44 = .ok (.dload 4, 2) := by decide +kernel
theorem dX0_addPartOf_46 : decode cX0_addPartOf 46 = .ok (.dcmp .l, 1) := by decide +kernel
theorem dX0_addPartOf_47 : decode cX0_addPartOf 47 = .ok (.ifCond .le 8, 3) := by decide +kernel
theorem dX0_addPartOf_50 : decode cX0_addPartOf 50 = .ok (.dload 7, 2) := by decide +kernel
theorem dX0_addPartOf_52 : decode cX0_addPartOf 52 = .ok (.goto 5, 3) := by decide +kernel
theorem dX0_addPartOf_55 : decode cX0_addPartOf 55 = .ok (.dload 4, 2) := by decide +kernel
theorem dX0_addPartOf_57 : decode cX0_addPartOf 57 = .ok (.dstore 4, 2) := by decide +kernel
theorem dX0_addPartOf_59 : decode cX0_addPartOf 59 = .ok (.iinc 6 1, 3) := by decide +kernel
theorem dX0_addPartOf_62 : decode cX0_addPartOf 62 = .ok (.goto (-44), 3) := by decide +kernel
theorem dX0_addPartOf_65 : decode cX0_addPartOf 65 = .ok (.aload_n 0, 1) := by decide +kernel
theorem dX0_addPartOf_66 : decode cX0_addPartOf 66 = .ok (.getfield 9, 3) := by decide +kernel
theorem dX0_addPartOf_69 : decode cX0_addPartOf 69 = .ok (.iload_n 3, 1) := by decide +kernel
theorem dX0_addPartOf_70 : decode cX0_addPartOf 70 = .ok (.dload 4, 2) := by decide +kernel
theorem dX0_addPartOf_72 : decode cX0_addPartOf 72 = .ok (.dastore, 1) := by decide +kernel
theorem dX0_addPartOf_73 : decode cX0_addPartOf 73 = .ok (.iinc 3 (-1), 3) := by decide +kernel
theorem dX0_addPartOf_76 : decode cX0_addPartOf 76 = .ok (.goto (-68), 3) := by decide +kernel
theorem dX0_addPartOf_79 : decode cX0_addPartOf 79 = .ok (.return_, 1) := by decide +kernel
theorem dX0_correctionOf_0 : decode cX0_correctionOf 0 = .ok (.iload_n 1, 1) := by decide +kernel
theorem dX0_correctionOf_1 : decode cX0_correctionOf 1 = .ok (.ifCond .lt 21, 3) := by decide +kernel
theorem dX0_correctionOf_4 : decode cX0_correctionOf 4 = .ok (.iload_n 1, 1) := by decide +kernel
theorem dX0_correctionOf_5 : decode cX0_correctionOf 5 = .ok (.aload_n 0, 1) := by decide +kernel
theorem dX0_correctionOf_6 : decode cX0_correctionOf 6 = .ok (.getfield 9, 3) := by decide +kernel
theorem dX0_correctionOf_9 : decode cX0_correctionOf 9 = .ok (.arraylength, 1) := by decide +kernel
theorem dX0_correctionOf_10 : decode cX0_correctionOf 10 = .ok (.if_icmp .ge 12, 3) := by decide +kernel
theorem dX0_correctionOf_13 : decode cX0_correctionOf 13 = .ok (.aload_n 0, 1) := by decide +kernel
theorem dX0_correctionOf_14 : decode cX0_correctionOf 14 = .ok (.getfield 9, 3) := by decide +kernel
theorem dX0_correctionOf_17 : decode cX0_correctionOf 17 = .ok (.iload_n 1, 1) := by decide +kernel
theorem dX0_correctionOf_18 : decode cX0_correctionOf 18 = .ok (.daload, 1) := by decide +kernel
theorem dX0_correctionOf_19 : decode cX0_correctionOf 19 = .ok (.goto 4, 3) := by decide +kernel
theorem dX0_correctionOf_22 : decode cX0_correctionOf 22 = .ok (.dconst 0, 1) := by decide +kernel
theorem dX0_correctionOf_23 : decode cX0_correctionOf 23 = .ok (.dreturn, 1) := by decide +kernel
theorem dX0_greatestFrom_0 : decode cX0_greatestFrom 0 = .ok (.dconst 0, 1) := by decide +kernel
theorem dX0_greatestFrom_1 : decode cX0_greatestFrom 1 = .ok (.dstore_n 2, 1) := by decide +kernel
theorem dX0_greatestFrom_2 : decode cX0_greatestFrom 2 = .ok (.iload_n 1, 1) := by decide +kernel
theorem dX0_greatestFrom_3 : decode cX0_greatestFrom 3 = .ok (.iconst 0, 1) := by decide +kernel
theorem dX0_greatestFrom_4 : decode cX0_greatestFrom 4 = .ok (.invokestatic 33, 3) := by decide +kernel
theorem dX0_greatestFrom_7 : decode cX0_greatestFrom 7 = .ok (.istore 4, 2) := by decide +kernel
theorem dX0_greatestFrom_9 : decode cX0_greatestFrom 9 = .ok (.iload 4, 2) := by decide +kernel
theorem dX0_greatestFrom_11 : decode cX0_greatestFrom 11 = .ok (.aload_n 0, 1) := by decide +kernel
theorem dX0_greatestFrom_12 : decode cX0_greatestFrom 12 = .ok (.getfield 9, 3) := by decide +kernel
theorem dX0_greatestFrom_15 : decode cX0_greatestFrom 15 = .ok (.arraylength, 1) := by decide +kernel
theorem dX0_greatestFrom_16 : decode cX0_greatestFrom 16 = .ok (.if_icmp .ge 33, 3) := by decide +kernel
theorem dX0_greatestFrom_19 : decode cX0_greatestFrom 19 = .ok (.aload_n 0, 1) := by decide +kernel
theorem dX0_greatestFrom_20 : decode cX0_greatestFrom 20 = .ok (.getfield 9, 3) := by decide +kernel
theorem dX0_greatestFrom_23 : decode cX0_greatestFrom 23 = .ok (.iload 4, 2) := by decide +kernel
theorem dX0_greatestFrom_25 : decode cX0_greatestFrom 25 = .ok (.daload, 1) := by decide +kernel
theorem dX0_greatestFrom_26 : decode cX0_greatestFrom 26 = .ok (.dload_n 2, 1) := by decide +kernel
theorem dX0_greatestFrom_27 : decode cX0_greatestFrom 27 = .ok (.dcmp .l, 1) := by decide +kernel
theorem dX0_greatestFrom_28 : decode cX0_greatestFrom 28 = .ok (.ifCond .le 13, 3) := by decide +kernel
theorem dX0_greatestFrom_31 : decode cX0_greatestFrom 31 = .ok (.aload_n 0, 1) := by decide +kernel
theorem dX0_greatestFrom_32 : decode cX0_greatestFrom 32 = .ok (.getfield 9, 3) := by decide +kernel
theorem dX0_greatestFrom_35 : decode cX0_greatestFrom 35 = .ok (.iload 4, 2) := by decide +kernel
theorem dX0_greatestFrom_37 : decode cX0_greatestFrom 37 = .ok (.daload, 1) := by decide +kernel
theorem dX0_greatestFrom_38 : decode cX0_greatestFrom 38 = .ok (.goto 4, 3) := by decide +kernel
theorem dX0_greatestFrom_41 : decode cX0_greatestFrom 41 = .ok (.dload_n 2, 1) := by decide +kernel
theorem dX0_greatestFrom_42 : decode cX0_greatestFrom 42 = .ok (.dstore_n 2, 1) := by decide +kernel
theorem dX0_greatestFrom_43 : decode cX0_greatestFrom 43 = .ok (.iinc 4 1, 3) := by decide +kernel
theorem dX0_greatestFrom_46 : decode cX0_greatestFrom 46 = .ok (.goto (-37), 3) := by decide +kernel
theorem dX0_greatestFrom_49 : decode cX0_greatestFrom 49 = .ok (.dload_n 2, 1) := by decide +kernel
theorem dX0_greatestFrom_50 : decode cX0_greatestFrom 50 = .ok (.dreturn, 1) := by decide +kernel
theorem dX1_init_0 : decode cX1_init 0 = .ok (.aload_n 0, 1) := by decide +kernel
theorem dX1_init_1 : decode cX1_init 1 = .ok (.invokespecial 3, 3) := by decide +kernel
theorem dX1_init_4 : decode cX1_init 4 = .ok (.aload_n 0, 1) := by decide +kernel
theorem dX1_init_5 : decode cX1_init 5 = .ok (.bipush 31, 2) := by decide +kernel
theorem dX1_init_7 : decode cX1_init 7 = .ok (.newarray .long, 2) := by decide +kernel
theorem dX1_init_9 : decode cX1_init 9 = .ok (.putfield 9, 3) := by decide +kernel
theorem dX1_init_12 : decode cX1_init 12 = .ok (.return_, 1) := by decide +kernel
theorem dX1_fill_0 : decode cX1_fill 0 = .ok (.iconst 0, 1) := by decide +kernel
theorem dX1_fill_1 : decode cX1_fill 1 = .ok (.istore_n 3, 1) := by decide +kernel
theorem dX1_fill_2 : decode cX1_fill 2 = .ok (.iload_n 3, 1) := by decide +kernel
theorem dX1_fill_3 : decode cX1_fill 3 = .ok (.aload_n 0, 1) := by decide +kernel
theorem dX1_fill_4 : decode cX1_fill 4 = .ok (.getfield 9, 3) := by decide +kernel
theorem dX1_fill_7 : decode cX1_fill 7 = .ok (.arraylength, 1) := by decide +kernel
theorem dX1_fill_8 : decode cX1_fill 8 = .ok (.if_icmp .ge 24, 3) := by decide +kernel
theorem dX1_fill_11 : decode cX1_fill 11 = .ok (.aload_n 0, 1) := by decide +kernel
theorem dX1_fill_12 : decode cX1_fill 12 = .ok (.getfield 9, 3) := by decide +kernel
theorem dX1_fill_15 : decode cX1_fill 15 = .ok (.iload_n 3, 1) := by decide +kernel
theorem dX1_fill_16 : decode cX1_fill 16 = .ok (.iload_n 3, 1) := by decide +kernel
theorem dX1_fill_17 : decode cX1_fill 17 = .ok (.ifCond .ne 7, 3) := by decide +kernel
theorem dX1_fill_20 : decode cX1_fill 20 = .ok (.lconst 1, 1) := by decide +kernel
theorem dX1_fill_21 : decode cX1_fill 21 = .ok (.goto 4, 3) := by decide +kernel
theorem dX1_fill_24 : decode cX1_fill 24 = .ok (.lconst 0, 1) := by decide +kernel
theorem dX1_fill_25 : decode cX1_fill 25 = .ok (.lastore, 1) := by decide +kernel
theorem dX1_fill_26 : decode cX1_fill 26 = .ok (.iinc 3 1, 3) := by decide +kernel
theorem dX1_fill_29 : decode cX1_fill 29 = .ok (.goto (-27), 3) := by decide +kernel
theorem dX1_fill_32 : decode cX1_fill 32 = .ok (.iconst 0, 1) := by decide +kernel
theorem dX1_fill_33 : decode cX1_fill 33 = .ok (.istore_n 3, 1) := by decide +kernel
theorem dX1_fill_34 : decode cX1_fill 34 = .ok (.iload_n 3, 1) := by decide +kernel
theorem dX1_fill_35 : decode cX1_fill 35 = .ok (.aload_n 1, 1) := by decide +kernel
theorem dX1_fill_36 : decode cX1_fill 36 = .ok (.getfield 15, 3) := by decide +kernel
theorem dX1_fill_39 : decode cX1_fill 39 = .ok (.if_icmp .ge 20, 3) := by decide +kernel
theorem dX1_fill_42 : decode cX1_fill 42 = .ok (.iload_n 3, 1) := by decide +kernel
theorem dX1_fill_43 : decode cX1_fill 43 = .ok (.iload_n 2, 1) := by decide +kernel
theorem dX1_fill_44 : decode cX1_fill 44 = .ok (.if_icmp .eq 9, 3) := by decide +kernel
theorem dX1_fill_47 : decode cX1_fill 47 = .ok (.aload_n 0, 1) := by decide +kernel
theorem dX1_fill_48 : decode cX1_fill 48 = .ok (.aload_n 1, 1) := by decide +kernel
theorem dX1_fill_49 : decode cX1_fill 49 = .ok (.iload_n 3, 1) := by decide +kernel
theorem dX1_fill_50 : decode cX1_fill 50 = .ok (.invokevirtual 21, 3) := by decide +kernel
theorem dX1_fill_53 : decode cX1_fill 53 = .ok (.iinc 3 1, 3) := by decide +kernel
theorem dX1_fill_56 : decode cX1_fill 56 = .ok (.goto (-22), 3) := by decide +kernel
theorem dX1_fill_59 : decode cX1_fill 59 = .ok (.return_, 1) := by decide +kernel
theorem dX1_addPartOf_0 : decode cX1_addPartOf 0 = .ok (.aload_n 0, 1) := by decide +kernel
theorem dX1_addPartOf_1 : decode cX1_addPartOf 1 = .ok (.getfield 9, 3) := by decide +kernel
theorem dX1_addPartOf_4 : decode cX1_addPartOf 4 = .ok (.arraylength, 1) := by decide +kernel
theorem dX1_addPartOf_5 : decode cX1_addPartOf 5 = .ok (.iconst 1, 1) := by decide +kernel
theorem dX1_addPartOf_6 : decode cX1_addPartOf 6 = .ok (.isub, 1) := by decide +kernel
theorem dX1_addPartOf_7 : decode cX1_addPartOf 7 = .ok (.istore_n 3, 1) := by decide +kernel
theorem dX1_addPartOf_8 : decode cX1_addPartOf 8 = .ok (.iload_n 3, 1) := by decide +kernel
theorem dX1_addPartOf_9 : decode cX1_addPartOf 9 = .ok (.ifCond .lt 61, 3) := by decide +kernel
theorem dX1_addPartOf_12 : decode cX1_addPartOf 12 = .ok (.lconst 0, 1) := by decide +kernel
theorem dX1_addPartOf_13 : decode cX1_addPartOf 13 = .ok (.lstore 4, 2) := by decide +kernel
theorem dX1_addPartOf_15 : decode cX1_addPartOf 15 = .ok (.iconst 0, 1) := by decide +kernel
theorem dX1_addPartOf_16 : decode cX1_addPartOf 16 = .ok (.istore 6, 2) := by decide +kernel
theorem dX1_addPartOf_18 : decode cX1_addPartOf 18 = .ok (.iload 6, 2) := by decide +kernel
theorem dX1_addPartOf_20 : decode cX1_addPartOf 20 = .ok (.bipush 6, 2) := by decide +kernel
theorem dX1_addPartOf_22 : decode cX1_addPartOf 22 = .ok (.if_icmp .ge 34, 3) := by decide +kernel
theorem dX1_addPartOf_25 : decode cX1_addPartOf 25 = .ok (.lload 4, 2) := by decide +kernel
theorem dX1_addPartOf_27 : decode cX1_addPartOf 27 = .ok (.aload_n 1, 1) := by decide +kernel
theorem dX1_addPartOf_28 : decode cX1_addPartOf 28 = .ok (.getfield 25, 3) := by decide +kernel
theorem dX1_addPartOf_31 : decode cX1_addPartOf 31 = .ok (.iload_n 2, 1) := by decide +kernel
theorem dX1_addPartOf_32 : decode cX1_addPartOf 32 = .ok (.iload 6, 2) := by decide +kernel
theorem dX1_addPartOf_34 : decode cX1_addPartOf 34 = .ok (.invokevirtual 29, 3) := by decide +kernel
theorem dX1_addPartOf_37 : decode cX1_addPartOf 37 = .ok (.i2l, 1) := by decide +kernel
theorem dX1_addPartOf_38 : decode cX1_addPartOf 38 = .ok (.aload_n 0, 1) := by decide +kernel
theorem dX1_addPartOf_39 : decode cX1_addPartOf 39 = .ok (.iload_n 3, 1) := by decide +kernel
theorem dX1_addPartOf_40 : decode cX1_addPartOf 40 = .ok (.iload 6, 2) := by decide +kernel
theorem dX1_addPartOf_42 : decode cX1_addPartOf 42 = .ok (.isub, 1) := by decide +kernel
theorem dX1_addPartOf_43 : decode cX1_addPartOf 43 = .ok (.invokevirtual 35, 3) := by decide +kernel
theorem dX1_addPartOf_46 : decode cX1_addPartOf 46 = .ok (.lmul, 1) := by decide +kernel
theorem dX1_addPartOf_47 : decode cX1_addPartOf 47 = .ok (.ladd, 1) := by decide +kernel
theorem dX1_addPartOf_48 : decode cX1_addPartOf 48 = .ok (.lstore 4, 2) := by decide +kernel
theorem dX1_addPartOf_50 : decode cX1_addPartOf 50 = .ok (.iinc 6 1, 3) := by decide +kernel
theorem dX1_addPartOf_53 : decode cX1_addPartOf 53 = .ok (.goto (-35), 3) := by decide +kernel
theorem dX1_addPartOf_56 : decode cX1_addPartOf 56 = .ok (.aload_n 0, 1) := by decide +kernel
theorem dX1_addPartOf_57 : decode cX1_addPartOf 57 = .ok (.getfield 9, 3) := by decide +kernel
theorem dX1_addPartOf_60 : decode cX1_addPartOf 60 = .ok (.iload_n 3, 1) := by decide +kernel
theorem dX1_addPartOf_61 : decode cX1_addPartOf 61 = .ok (.lload 4, 2) := by decide +kernel
theorem dX1_addPartOf_63 : decode cX1_addPartOf 63 = .ok (.lastore, 1) := by decide +kernel
theorem dX1_addPartOf_64 : decode cX1_addPartOf 64 = .ok (.iinc 3 (-1), 3) := by decide +kernel
theorem dX1_addPartOf_67 : decode cX1_addPartOf 67 = .ok (.goto (-59), 3) := by decide +kernel
theorem dX1_addPartOf_70 : decode cX1_addPartOf 70 = .ok (.return_, 1) := by decide +kernel
theorem dX1_waysOf_0 : decode cX1_waysOf 0 = .ok (.iload_n 1, 1) := by decide +kernel
theorem dX1_waysOf_1 : decode cX1_waysOf 1 = .ok (.ifCond .lt 21, 3) := by decide +kernel
theorem dX1_waysOf_4 : decode cX1_waysOf 4 = .ok (.iload_n 1, 1) := by decide +kernel
theorem dX1_waysOf_5 : decode cX1_waysOf 5 = .ok (.aload_n 0, 1) := by decide +kernel
theorem dX1_waysOf_6 : decode cX1_waysOf 6 = .ok (.getfield 9, 3) := by decide +kernel
theorem dX1_waysOf_9 : decode cX1_waysOf 9 = .ok (.arraylength, 1) := by decide +kernel
theorem dX1_waysOf_10 : decode cX1_waysOf 10 = .ok (.if_icmp .ge 12, 3) := by decide +kernel
theorem dX1_waysOf_13 : decode cX1_waysOf 13 = .ok (.aload_n 0, 1) := by decide +kernel
theorem dX1_waysOf_14 : decode cX1_waysOf 14 = .ok (.getfield 9, 3) := by decide +kernel
theorem dX1_waysOf_17 : decode cX1_waysOf 17 = .ok (.iload_n 1, 1) := by decide +kernel
theorem dX1_waysOf_18 : decode cX1_waysOf 18 = .ok (.laload, 1) := by decide +kernel
theorem dX1_waysOf_19 : decode cX1_waysOf 19 = .ok (.goto 4, 3) := by decide +kernel
theorem dX1_waysOf_22 : decode cX1_waysOf 22 = .ok (.lconst 0, 1) := by decide +kernel
theorem dX1_waysOf_23 : decode cX1_waysOf 23 = .ok (.lreturn, 1) := by decide +kernel
theorem dX1_waysFrom_0 : decode cX1_waysFrom 0 = .ok (.lconst 0, 1) := by decide +kernel
theorem dX1_waysFrom_1 : decode cX1_waysFrom 1 = .ok (.lstore_n 2, 1) := by decide +kernel
theorem dX1_waysFrom_2 : decode cX1_waysFrom 2 = .ok (.iload_n 1, 1) := by decide +kernel
theorem dX1_waysFrom_3 : decode cX1_waysFrom 3 = .ok (.iconst 0, 1) := by decide +kernel
theorem dX1_waysFrom_4 : decode cX1_waysFrom 4 = .ok (.invokestatic 39, 3) := by decide +kernel
theorem dX1_waysFrom_7 : decode cX1_waysFrom 7 = .ok (.istore 4, 2) := by decide +kernel
theorem dX1_waysFrom_9 : decode cX1_waysFrom 9 = .ok (.iload 4, 2) := by decide +kernel
theorem dX1_waysFrom_11 : decode cX1_waysFrom 11 = .ok (.aload_n 0, 1) := by decide +kernel
theorem dX1_waysFrom_12 : decode cX1_waysFrom 12 = .ok (.getfield 9, 3) := by decide +kernel
theorem dX1_waysFrom_15 : decode cX1_waysFrom 15 = .ok (.arraylength, 1) := by decide +kernel
theorem dX1_waysFrom_16 : decode cX1_waysFrom 16 = .ok (.if_icmp .ge 19, 3) := by decide +kernel
theorem dX1_waysFrom_19 : decode cX1_waysFrom 19 = .ok (.lload_n 2, 1) := by decide +kernel
theorem dX1_waysFrom_20 : decode cX1_waysFrom 20 = .ok (.aload_n 0, 1) := by decide +kernel
theorem dX1_waysFrom_21 : decode cX1_waysFrom 21 = .ok (.getfield 9, 3) := by decide +kernel
theorem dX1_waysFrom_24 : decode cX1_waysFrom 24 = .ok (.iload 4, 2) := by decide +kernel
theorem dX1_waysFrom_26 : decode cX1_waysFrom 26 = .ok (.laload, 1) := by decide +kernel
theorem dX1_waysFrom_27 : decode cX1_waysFrom 27 = .ok (.ladd, 1) := by decide +kernel
theorem dX1_waysFrom_28 : decode cX1_waysFrom 28 = .ok (.lstore_n 2, 1) := by decide +kernel
theorem dX1_waysFrom_29 : decode cX1_waysFrom 29 = .ok (.iinc 4 1, 3) := by decide +kernel
theorem dX1_waysFrom_32 : decode cX1_waysFrom 32 = .ok (.goto (-23), 3) := by decide +kernel
theorem dX1_waysFrom_35 : decode cX1_waysFrom 35 = .ok (.lload_n 2, 1) := by decide +kernel
theorem dX1_waysFrom_36 : decode cX1_waysFrom 36 = .ok (.lreturn, 1) := by decide +kernel
theorem dX1_oddsFrom_0 : decode cX1_oddsFrom 0 = .ok (.aload_n 0, 1) := by decide +kernel
theorem dX1_oddsFrom_1 : decode cX1_oddsFrom 1 = .ok (.iconst 0, 1) := by decide +kernel
theorem dX1_oddsFrom_2 : decode cX1_oddsFrom 2 = .ok (.invokevirtual 44, 3) := by decide +kernel
theorem dX1_oddsFrom_5 : decode cX1_oddsFrom 5 = .ok (.lstore_n 2, 1) := by decide +kernel
theorem dX1_oddsFrom_6 : decode cX1_oddsFrom 6 = .ok (.lload_n 2, 1) := by decide +kernel
theorem dX1_oddsFrom_7 : decode cX1_oddsFrom 7 = .ok (.lconst 0, 1) := by decide +kernel
theorem dX1_oddsFrom_8 : decode cX1_oddsFrom 8 = .ok (.lcmp, 1) := by decide +kernel
theorem dX1_oddsFrom_9 : decode cX1_oddsFrom 9 = .ok (.ifCond .le 15, 3) := by decide +kernel
theorem dX1_oddsFrom_12 : decode cX1_oddsFrom 12 = .ok (.aload_n 0, 1) := by decide +kernel
theorem dX1_oddsFrom_13 : decode cX1_oddsFrom 13 = .ok (.iload_n 1, 1) := by decide +kernel
theorem dX1_oddsFrom_14 : decode cX1_oddsFrom 14 = .ok (.invokevirtual 44, 3) := by decide +kernel
theorem dX1_oddsFrom_17 : decode cX1_oddsFrom 17 = .ok (.l2d, 1) := by decide +kernel
theorem dX1_oddsFrom_18 : decode cX1_oddsFrom 18 = .ok (.lload_n 2, 1) := by decide +kernel
theorem dX1_oddsFrom_19 : decode cX1_oddsFrom 19 = .ok (.l2d, 1) := by decide +kernel
theorem dX1_oddsFrom_20 : decode cX1_oddsFrom 20 = .ok (.ddiv, 1) := by decide +kernel
theorem dX1_oddsFrom_21 : decode cX1_oddsFrom 21 = .ok (.goto 4, 3) := by decide +kernel
theorem dX1_oddsFrom_24 : decode cX1_oddsFrom 24 = .ok (.dconst 0, 1) := by decide +kernel
theorem dX1_oddsFrom_25 : decode cX1_oddsFrom 25 = .ok (.dreturn, 1) := by decide +kernel
theorem dX2_init_0 : decode cX2_init 0 = .ok (.aload_n 0, 1) := by decide +kernel
theorem dX2_init_1 : decode cX2_init 1 = .ok (.invokespecial 3, 3) := by decide +kernel
theorem dX2_init_4 : decode cX2_init 4 = .ok (.aload_n 0, 1) := by decide +kernel
theorem dX2_init_5 : decode cX2_init 5 = .ok (.bipush 6, 2) := by decide +kernel
theorem dX2_init_7 : decode cX2_init 7 = .ok (.anewarray 9, 3) := by decide +kernel
theorem dX2_init_10 : decode cX2_init 10 = .ok (.putfield 11, 3) := by decide +kernel
theorem dX2_init_13 : decode cX2_init 13 = .ok (.aload_n 0, 1) := by decide +kernel
theorem dX2_init_14 : decode cX2_init 14 = .ok (.iconst 0, 1) := by decide +kernel
theorem dX2_init_15 : decode cX2_init 15 = .ok (.putfield 17, 3) := by decide +kernel
theorem dX2_init_18 : decode cX2_init 18 = .ok (.aload_n 0, 1) := by decide +kernel
theorem dX2_init_19 : decode cX2_init 19 = .ok (.iconst 0, 1) := by decide +kernel
theorem dX2_init_20 : decode cX2_init 20 = .ok (.putfield 21, 3) := by decide +kernel
theorem dX2_init_23 : decode cX2_init 23 = .ok (.return_, 1) := by decide +kernel
theorem dX2_save_0 : decode cX2_save 0 = .ok (.aload_n 0, 1) := by decide +kernel
theorem dX2_save_1 : decode cX2_save 1 = .ok (.getfield 17, 3) := by decide +kernel
theorem dX2_save_4 : decode cX2_save 4 = .ok (.ifCond .lt 15, 3) := by decide +kernel
theorem dX2_save_7 : decode cX2_save 7 = .ok (.aload_n 0, 1) := by decide +kernel
theorem dX2_save_8 : decode cX2_save 8 = .ok (.getfield 17, 3) := by decide +kernel
theorem dX2_save_11 : decode cX2_save 11 = .ok (.aload_n 0, 1) := by decide +kernel
theorem dX2_save_12 : decode cX2_save 12 = .ok (.getfield 11, 3) := by decide +kernel
theorem dX2_save_15 : decode cX2_save 15 = .ok (.arraylength, 1) := by decide +kernel
theorem dX2_save_16 : decode cX2_save 16 = .ok (.if_icmp .lt 4, 3) := by decide +kernel
theorem dX2_save_19 : decode cX2_save 19 = .ok (.return_, 1) := by decide +kernel
theorem dX2_save_20 : decode cX2_save 20 = .ok (.aload_n 0, 1) := by decide +kernel
theorem dX2_save_21 : decode cX2_save 21 = .ok (.getfield 11, 3) := by decide +kernel
theorem dX2_save_24 : decode cX2_save 24 = .ok (.aload_n 0, 1) := by decide +kernel
theorem dX2_save_25 : decode cX2_save 25 = .ok (.getfield 17, 3) := by decide +kernel
theorem dX2_save_28 : decode cX2_save 28 = .ok (.aaload, 1) := by decide +kernel
theorem dX2_save_29 : decode cX2_save 29 = .ok (.astore_n 2, 1) := by decide +kernel
theorem dX2_save_30 : decode cX2_save 30 = .ok (.aload_n 2, 1) := by decide +kernel
theorem dX2_save_31 : decode cX2_save 31 = .ok (.ifnonnull 21, 3) := by decide +kernel
theorem dX2_save_34 : decode cX2_save 34 = .ok (.new 9, 3) := by decide +kernel
theorem dX2_save_37 : decode cX2_save 37 = .ok (.dup, 1) := by decide +kernel
theorem dX2_save_38 : decode cX2_save 38 = .ok (.invokespecial 24, 3) := by decide +kernel
theorem dX2_save_41 : decode cX2_save 41 = .ok (.astore_n 2, 1) := by decide +kernel
theorem dX2_save_42 : decode cX2_save 42 = .ok (.aload_n 0, 1) := by decide +kernel
theorem dX2_save_43 : decode cX2_save 43 = .ok (.getfield 11, 3) := by decide +kernel
theorem dX2_save_46 : decode cX2_save 46 = .ok (.aload_n 0, 1) := by decide +kernel
theorem dX2_save_47 : decode cX2_save 47 = .ok (.getfield 17, 3) := by decide +kernel
theorem dX2_save_50 : decode cX2_save 50 = .ok (.aload_n 2, 1) := by decide +kernel
theorem dX2_save_51 : decode cX2_save 51 = .ok (.aastore, 1) := by decide +kernel
theorem dX2_save_52 : decode cX2_save 52 = .ok (.aload_n 2, 1) := by decide +kernel
theorem dX2_save_53 : decode cX2_save 53 = .ok (.aload_n 1, 1) := by decide +kernel
theorem dX2_save_54 : decode cX2_save 54 = .ok (.invokevirtual 25, 3) := by decide +kernel
theorem dX2_save_57 : decode cX2_save 57 = .ok (.aload_n 0, 1) := by decide +kernel
theorem dX2_save_58 : decode cX2_save 58 = .ok (.aload_n 0, 1) := by decide +kernel
theorem dX2_save_59 : decode cX2_save 59 = .ok (.getfield 17, 3) := by decide +kernel
theorem dX2_save_62 : decode cX2_save 62 = .ok (.iconst 1, 1) := by decide +kernel
theorem dX2_save_63 : decode cX2_save 63 = .ok (.iadd, 1) := by decide +kernel
theorem dX2_save_64 : decode cX2_save 64 = .ok (.bipush 6, 2) := by decide +kernel
theorem dX2_save_66 : decode cX2_save 66 = .ok (.irem, 1) := by decide +kernel
theorem dX2_save_67 : decode cX2_save 67 = .ok (.putfield 17, 3) := by decide +kernel
theorem dX2_save_70 : decode cX2_save 70 = .ok (.aload_n 0, 1) := by decide +kernel
theorem dX2_save_71 : decode cX2_save 71 = .ok (.aload_n 0, 1) := by decide +kernel
theorem dX2_save_72 : decode cX2_save 72 = .ok (.getfield 21, 3) := by decide +kernel
theorem dX2_save_75 : decode cX2_save 75 = .ok (.iconst 1, 1) := by decide +kernel
theorem dX2_save_76 : decode cX2_save 76 = .ok (.iadd, 1) := by decide +kernel
theorem dX2_save_77 : decode cX2_save 77 = .ok (.bipush 6, 2) := by decide +kernel
theorem dX2_save_79 : decode cX2_save 79 = .ok (.invokestatic 29, 3) := by decide +kernel
theorem dX2_save_82 : decode cX2_save 82 = .ok (.putfield 21, 3) := by decide +kernel
theorem dX2_save_85 : decode cX2_save 85 = .ok (.return_, 1) := by decide +kernel
theorem dX2_restore_0 : decode cX2_restore 0 = .ok (.aload_n 0, 1) := by decide +kernel
theorem dX2_restore_1 : decode cX2_restore 1 = .ok (.getfield 17, 3) := by decide +kernel
theorem dX2_restore_4 : decode cX2_restore 4 = .ok (.bipush 6, 2) := by decide +kernel
theorem dX2_restore_6 : decode cX2_restore 6 = .ok (.iadd, 1) := by decide +kernel
theorem dX2_restore_7 : decode cX2_restore 7 = .ok (.iconst 1, 1) := by decide +kernel
theorem dX2_restore_8 : decode cX2_restore 8 = .ok (.isub, 1) := by decide +kernel
theorem dX2_restore_9 : decode cX2_restore 9 = .ok (.bipush 6, 2) := by decide +kernel
theorem dX2_restore_11 : decode cX2_restore 11 = .ok (.irem, 1) := by decide +kernel
theorem dX2_restore_12 : decode cX2_restore 12 = .ok (.istore_n 2, 1) := by decide +kernel
theorem dX2_restore_13 : decode cX2_restore 13 = .ok (.aload_n 0, 1) := by decide +kernel
theorem dX2_restore_14 : decode cX2_restore 14 = .ok (.getfield 21, 3) := by decide +kernel
theorem dX2_restore_17 : decode cX2_restore 17 = .ok (.ifCond .le 16, 3) := by decide +kernel
theorem dX2_restore_20 : decode cX2_restore 20 = .ok (.iload_n 2, 1) := by decide +kernel
theorem dX2_restore_21 : decode cX2_restore 21 = .ok (.ifCond .lt 12, 3) := by decide +kernel
theorem dX2_restore_24 : decode cX2_restore 24 = .ok (.iload_n 2, 1) := by decide +kernel
theorem dX2_restore_25 : decode cX2_restore 25 = .ok (.aload_n 0, 1) := by decide +kernel
theorem dX2_restore_26 : decode cX2_restore 26 = .ok (.getfield 11, 3) := by decide +kernel
theorem dX2_restore_29 : decode cX2_restore 29 = .ok (.arraylength, 1) := by decide +kernel
theorem dX2_restore_30 : decode cX2_restore 30 = .ok (.if_icmp .lt 4, 3) := by decide +kernel
theorem dX2_restore_33 : decode cX2_restore 33 = .ok (.return_, 1) := by decide +kernel
theorem dX2_restore_34 : decode cX2_restore 34 = .ok (.aload_n 0, 1) := by decide +kernel
theorem dX2_restore_35 : decode cX2_restore 35 = .ok (.getfield 11, 3) := by decide +kernel
theorem dX2_restore_38 : decode cX2_restore 38 = .ok (.iload_n 2, 1) := by decide +kernel
theorem dX2_restore_39 : decode cX2_restore 39 = .ok (.aaload, 1) := by decide +kernel
theorem dX2_restore_40 : decode cX2_restore 40 = .ok (.astore_n 3, 1) := by decide +kernel
theorem dX2_restore_41 : decode cX2_restore 41 = .ok (.aload_n 3, 1) := by decide +kernel
theorem dX2_restore_42 : decode cX2_restore 42 = .ok (.ifnonnull 4, 3) := by decide +kernel
theorem dX2_restore_45 : decode cX2_restore 45 = .ok (.return_, 1) := by decide +kernel
theorem dX2_restore_46 : decode cX2_restore 46 = .ok (.aload_n 1, 1) := by decide +kernel
theorem dX2_restore_47 : decode cX2_restore 47 = .ok (.aload_n 3, 1) := by decide +kernel
theorem dX2_restore_48 : decode cX2_restore 48 = .ok (.invokevirtual 25, 3) := by decide +kernel
theorem dX2_restore_51 : decode cX2_restore 51 = .ok (.aload_n 0, 1) := by decide +kernel
theorem dX2_restore_52 : decode cX2_restore 52 = .ok (.iload_n 2, 1) := by decide +kernel
theorem dX2_restore_53 : decode cX2_restore 53 = .ok (.putfield 17, 3) := by decide +kernel
theorem dX2_restore_56 : decode cX2_restore 56 = .ok (.aload_n 0, 1) := by decide +kernel
theorem dX2_restore_57 : decode cX2_restore 57 = .ok (.dup, 1) := by decide +kernel
theorem dX2_restore_58 : decode cX2_restore 58 = .ok (.getfield 21, 3) := by decide +kernel
theorem dX2_restore_61 : decode cX2_restore 61 = .ok (.iconst 1, 1) := by decide +kernel
theorem dX2_restore_62 : decode cX2_restore 62 = .ok (.isub, 1) := by decide +kernel
theorem dX2_restore_63 : decode cX2_restore 63 = .ok (.putfield 21, 3) := by decide +kernel
theorem dX2_restore_66 : decode cX2_restore 66 = .ok (.return_, 1) := by decide +kernel
theorem dX3_init_0 : decode cX3_init 0 = .ok (.aload_n 0, 1) := by decide +kernel
theorem dX3_init_1 : decode cX3_init 1 = .ok (.invokespecial 3, 3) := by decide +kernel
theorem dX3_init_4 : decode cX3_init 4 = .ok (.aload_n 0, 1) := by decide +kernel
theorem dX3_init_5 : decode cX3_init 5 = .ok (.sipush 217, 3) := by decide +kernel
theorem dX3_init_8 : decode cX3_init 8 = .ok (.newarray .int, 2) := by decide +kernel
theorem dX3_init_10 : decode cX3_init 10 = .ok (.putfield 9, 3) := by decide +kernel
theorem dX3_init_13 : decode cX3_init 13 = .ok (.return_, 1) := by decide +kernel
theorem dX3_fill_0 : decode cX3_fill 0 = .ok (.iconst 0, 1) := by decide +kernel
theorem dX3_fill_1 : decode cX3_fill 1 = .ok (.istore_n 2, 1) := by decide +kernel
theorem dX3_fill_2 : decode cX3_fill 2 = .ok (.iload_n 2, 1) := by decide +kernel
theorem dX3_fill_3 : decode cX3_fill 3 = .ok (.bipush 31, 2) := by decide +kernel
theorem dX3_fill_5 : decode cX3_fill 5 = .ok (.if_icmp .ge 27, 3) := by decide +kernel
theorem dX3_fill_8 : decode cX3_fill 8 = .ok (.aload_n 0, 1) := by decide +kernel
theorem dX3_fill_9 : decode cX3_fill 9 = .ok (.aload_n 1, 1) := by decide +kernel
theorem dX3_fill_10 : decode cX3_fill 10 = .ok (.getfield 15, 3) := by decide +kernel
theorem dX3_fill_13 : decode cX3_fill 13 = .ok (.iload_n 2, 1) := by decide +kernel
theorem dX3_fill_14 : decode cX3_fill 14 = .ok (.iload_n 2, 1) := by decide +kernel
theorem dX3_fill_15 : decode cX3_fill 15 = .ok (.ifCond .ne 7, 3) := by decide +kernel
theorem dX3_fill_18 : decode cX3_fill 18 = .ok (.iconst 1, 1) := by decide +kernel
theorem dX3_fill_19 : decode cX3_fill 19 = .ok (.goto 4, 3) := by decide +kernel
theorem dX3_fill_22 : decode cX3_fill 22 = .ok (.iconst 0, 1) := by decide +kernel
theorem dX3_fill_23 : decode cX3_fill 23 = .ok (.invokevirtual 21, 3) := by decide +kernel
theorem dX3_fill_26 : decode cX3_fill 26 = .ok (.iinc 2 1, 3) := by decide +kernel
theorem dX3_fill_29 : decode cX3_fill 29 = .ok (.goto (-27), 3) := by decide +kernel
theorem dX3_fill_32 : decode cX3_fill 32 = .ok (.aload_n 1, 1) := by decide +kernel
theorem dX3_fill_33 : decode cX3_fill 33 = .ok (.getfield 15, 3) := by decide +kernel
theorem dX3_fill_36 : decode cX3_fill 36 = .ok (.iconst 1, 1) := by decide +kernel
theorem dX3_fill_37 : decode cX3_fill 37 = .ok (.isub, 1) := by decide +kernel
theorem dX3_fill_38 : decode cX3_fill 38 = .ok (.istore_n 2, 1) := by decide +kernel
theorem dX3_fill_39 : decode cX3_fill 39 = .ok (.iload_n 2, 1) := by decide +kernel
theorem dX3_fill_40 : decode cX3_fill 40 = .ok (.ifCond .lt 36, 3) := by decide +kernel
theorem dX3_fill_43 : decode cX3_fill 43 = .ok (.iconst 0, 1) := by decide +kernel
theorem dX3_fill_44 : decode cX3_fill 44 = .ok (.istore_n 3, 1) := by decide +kernel
theorem dX3_fill_45 : decode cX3_fill 45 = .ok (.iload_n 3, 1) := by decide +kernel
theorem dX3_fill_46 : decode cX3_fill 46 = .ok (.bipush 31, 2) := by decide +kernel
theorem dX3_fill_48 : decode cX3_fill 48 = .ok (.if_icmp .ge 22, 3) := by decide +kernel
theorem dX3_fill_51 : decode cX3_fill 51 = .ok (.aload_n 0, 1) := by decide +kernel
theorem dX3_fill_52 : decode cX3_fill 52 = .ok (.iload_n 2, 1) := by decide +kernel
theorem dX3_fill_53 : decode cX3_fill 53 = .ok (.iload_n 3, 1) := by decide +kernel
theorem dX3_fill_54 : decode cX3_fill 54 = .ok (.aload_n 0, 1) := by decide +kernel
theorem dX3_fill_55 : decode cX3_fill 55 = .ok (.aload_n 1, 1) := by decide +kernel
theorem dX3_fill_56 : decode cX3_fill 56 = .ok (.iload_n 2, 1) := by decide +kernel
theorem dX3_fill_57 : decode cX3_fill 57 = .ok (.iload_n 3, 1) := by decide +kernel
theorem dX3_fill_58 : decode cX3_fill 58 = .ok (.invokevirtual 25, 3) := by decide +kernel
theorem dX3_fill_61 : decode cX3_fill 61 = .ok (.invokevirtual 21, 3) := by decide +kernel
theorem dX3_fill_64 : decode cX3_fill 64 = .ok (.iinc 3 1, 3) := by decide +kernel
theorem dX3_fill_67 : decode cX3_fill 67 = .ok (.goto (-22), 3) := by decide +kernel
theorem dX3_fill_70 : decode cX3_fill 70 = .ok (.iinc 2 (-1), 3) := by decide +kernel
theorem dX3_fill_73 : decode cX3_fill 73 = .ok (.goto (-34), 3) := by decide +kernel
theorem dX3_fill_76 : decode cX3_fill 76 = .ok (.return_, 1) := by decide +kernel
theorem dX3_waysFor_0 : decode cX3_waysFor 0 = .ok (.aload_n 0, 1) := by decide +kernel
theorem dX3_waysFor_1 : decode cX3_waysFor 1 = .ok (.iconst 0, 1) := by decide +kernel
theorem dX3_waysFor_2 : decode cX3_waysFor 2 = .ok (.iload_n 1, 1) := by decide +kernel
theorem dX3_waysFor_3 : decode cX3_waysFor 3 = .ok (.invokevirtual 29, 3) := by decide +kernel
theorem dX3_waysFor_6 : decode cX3_waysFor 6 = .ok (.ireturn, 1) := by decide +kernel
theorem dX3_loadOf_0 : decode cX3_loadOf 0 = .ok (.aload_n 0, 1) := by decide +kernel
theorem dX3_loadOf_1 : decode cX3_loadOf 1 = .ok (.aload_n 1, 1) := by decide +kernel
theorem dX3_loadOf_2 : decode cX3_loadOf 2 = .ok (.getfield 33, 3) := by decide +kernel
theorem dX3_loadOf_5 : decode cX3_loadOf 5 = .ok (.invokevirtual 36, 3) := by decide +kernel
theorem dX3_loadOf_8 : decode cX3_loadOf 8 = .ok (.ifCond .ne 5, 3) := by decide +kernel
theorem dX3_loadOf_11 : decode cX3_loadOf 11 = .ok (.iconst (-1), 1) := by decide +kernel
theorem dX3_loadOf_12 : decode cX3_loadOf 12 = .ok (.ireturn, 1) := by decide +kernel
theorem dX3_loadOf_13 : decode cX3_loadOf 13 = .ok (.aload_n 1, 1) := by decide +kernel
theorem dX3_loadOf_14 : decode cX3_loadOf 14 = .ok (.getfield 33, 3) := by decide +kernel
theorem dX3_loadOf_17 : decode cX3_loadOf 17 = .ok (.istore_n 3, 1) := by decide +kernel
theorem dX3_loadOf_18 : decode cX3_loadOf 18 = .ok (.iconst 0, 1) := by decide +kernel
theorem dX3_loadOf_19 : decode cX3_loadOf 19 = .ok (.istore 4, 2) := by decide +kernel
theorem dX3_loadOf_21 : decode cX3_loadOf 21 = .ok (.iload 4, 2) := by decide +kernel
theorem dX3_loadOf_23 : decode cX3_loadOf 23 = .ok (.iload_n 2, 1) := by decide +kernel
theorem dX3_loadOf_24 : decode cX3_loadOf 24 = .ok (.if_icmp .ge 24, 3) := by decide +kernel
theorem dX3_loadOf_27 : decode cX3_loadOf 27 = .ok (.iload_n 3, 1) := by decide +kernel
theorem dX3_loadOf_28 : decode cX3_loadOf 28 = .ok (.aload_n 0, 1) := by decide +kernel
theorem dX3_loadOf_29 : decode cX3_loadOf 29 = .ok (.aload_n 1, 1) := by decide +kernel
theorem dX3_loadOf_30 : decode cX3_loadOf 30 = .ok (.iload 4, 2) := by decide +kernel
theorem dX3_loadOf_32 : decode cX3_loadOf 32 = .ok (.iload_n 3, 1) := by decide +kernel
theorem dX3_loadOf_33 : decode cX3_loadOf 33 = .ok (.invokevirtual 40, 3) := by decide +kernel
theorem dX3_loadOf_36 : decode cX3_loadOf 36 = .ok (.isub, 1) := by decide +kernel
theorem dX3_loadOf_37 : decode cX3_loadOf 37 = .ok (.iconst 0, 1) := by decide +kernel
theorem dX3_loadOf_38 : decode cX3_loadOf 38 = .ok (.invokestatic 43, 3) := by decide +kernel
theorem dX3_loadOf_41 : decode cX3_loadOf 41 = .ok (.istore_n 3, 1) := by decide +kernel
theorem dX3_loadOf_42 : decode cX3_loadOf 42 = .ok (.iinc 4 1, 3) := by decide +kernel
theorem dX3_loadOf_45 : decode cX3_loadOf 45 = .ok (.goto (-24), 3) := by decide +kernel
theorem dX3_loadOf_48 : decode cX3_loadOf 48 = .ok (.aload_n 0, 1) := by decide +kernel
theorem dX3_loadOf_49 : decode cX3_loadOf 49 = .ok (.aload_n 1, 1) := by decide +kernel
theorem dX3_loadOf_50 : decode cX3_loadOf 50 = .ok (.iload_n 2, 1) := by decide +kernel
theorem dX3_loadOf_51 : decode cX3_loadOf 51 = .ok (.iload_n 3, 1) := by decide +kernel
theorem dX3_loadOf_52 : decode cX3_loadOf 52 = .ok (.invokevirtual 40, 3) := by decide +kernel
theorem dX3_loadOf_55 : decode cX3_loadOf 55 = .ok (.ireturn, 1) := by decide +kernel
theorem dX3_firstLoad_0 : decode cX3_firstLoad 0 = .ok (.iconst 0, 1) := by decide +kernel
theorem dX3_firstLoad_1 : decode cX3_firstLoad 1 = .ok (.istore 4, 2) := by decide +kernel
theorem dX3_firstLoad_3 : decode cX3_firstLoad 3 = .ok (.iload 4, 2) := by decide +kernel
theorem dX3_firstLoad_5 : decode cX3_firstLoad 5 = .ok (.bipush 6, 2) := by decide +kernel
theorem dX3_firstLoad_7 : decode cX3_firstLoad 7 = .ok (.if_icmp .ge 30, 3) := by decide +kernel
theorem dX3_firstLoad_10 : decode cX3_firstLoad 10 = .ok (.aload_n 0, 1) := by decide +kernel
theorem dX3_firstLoad_11 : decode cX3_firstLoad 11 = .ok (.aload_n 1, 1) := by decide +kernel
theorem dX3_firstLoad_12 : decode cX3_firstLoad 12 = .ok (.iload_n 2, 1) := by decide +kernel
theorem dX3_firstLoad_13 : decode cX3_firstLoad 13 = .ok (.iload 4, 2) := by decide +kernel
theorem dX3_firstLoad_15 : decode cX3_firstLoad 15 = .ok (.iload_n 3, 1) := by decide +kernel
theorem dX3_firstLoad_16 : decode cX3_firstLoad 16 = .ok (.invokevirtual 48, 3) := by decide +kernel
theorem dX3_firstLoad_19 : decode cX3_firstLoad 19 = .ok (.aload_n 0, 1) := by decide +kernel
theorem dX3_firstLoad_20 : decode cX3_firstLoad 20 = .ok (.iload_n 2, 1) := by decide +kernel
theorem dX3_firstLoad_21 : decode cX3_firstLoad 21 = .ok (.iload_n 3, 1) := by decide +kernel
theorem dX3_firstLoad_22 : decode cX3_firstLoad 22 = .ok (.invokevirtual 29, 3) := by decide +kernel
theorem dX3_firstLoad_25 : decode cX3_firstLoad 25 = .ok (.if_icmp .ne 6, 3) := by decide +kernel
theorem dX3_firstLoad_28 : decode cX3_firstLoad 28 = .ok (.iload 4, 2) := by decide +kernel
theorem dX3_firstLoad_30 : decode cX3_firstLoad 30 = .ok (.ireturn, 1) := by decide +kernel
theorem dX3_firstLoad_31 : decode cX3_firstLoad 31 = .ok (.iinc 4 1, 3) := by decide +kernel
theorem dX3_firstLoad_34 : decode cX3_firstLoad 34 = .ok (.goto (-31), 3) := by decide +kernel
theorem dX3_firstLoad_37 : decode cX3_firstLoad 37 = .ok (.iconst (-1), 1) := by decide +kernel
theorem dX3_firstLoad_38 : decode cX3_firstLoad 38 = .ok (.ireturn, 1) := by decide +kernel
theorem dX3_mostOfLoads_0 : decode cX3_mostOfLoads 0 = .ok (.iconst 0, 1) := by decide +kernel
theorem dX3_mostOfLoads_1 : decode cX3_mostOfLoads 1 = .ok (.istore 4, 2) := by decide +kernel
theorem dX3_mostOfLoads_3 : decode cX3_mostOfLoads 3 = .ok (.iconst 0, 1) := by decide +kernel
theorem dX3_mostOfLoads_4 : decode cX3_mostOfLoads 4 = .ok (.istore 5, 2) := by decide +kernel
theorem dX3_mostOfLoads_6 : decode cX3_mostOfLoads 6 = .ok (.iload 5, 2) := by decide +kernel
theorem dX3_mostOfLoads_8 : decode cX3_mostOfLoads 8 = .ok (.bipush 6, 2) := by decide +kernel
theorem dX3_mostOfLoads_10 : decode cX3_mostOfLoads 10 = .ok (.if_icmp .ge 25, 3) := by decide +kernel
theorem dX3_mostOfLoads_13 : decode cX3_mostOfLoads 13 = .ok (.iload 4, 2) := by decide +kernel
theorem dX3_mostOfLoads_15 : decode cX3_mostOfLoads 15 = .ok (.aload_n 0, 1) := by decide +kernel
theorem dX3_mostOfLoads_16 : decode cX3_mostOfLoads 16 = .ok (.aload_n 1, 1) := by decide +kernel
theorem dX3_mostOfLoads_17 : decode cX3_mostOfLoads 17 = .ok (.iload_n 2, 1) := by decide +kernel
theorem dX3_mostOfLoads_18 : decode cX3_mostOfLoads 18 = .ok (.iload 5, 2) := by decide +kernel
theorem dX3_mostOfLoads_20 : decode cX3_mostOfLoads 20 = .ok (.iload_n 3, 1) := by decide +kernel
theorem dX3_mostOfLoads_21 : decode cX3_mostOfLoads 21 = .ok (.invokevirtual 48, 3) := by decide +kernel
theorem dX3_mostOfLoads_24 : decode cX3_mostOfLoads 24 = .ok (.invokestatic 43, 3) := by decide +kernel
theorem dX3_mostOfLoads_27 : decode cX3_mostOfLoads 27 = .ok (.istore 4, 2) := by decide +kernel
theorem dX3_mostOfLoads_29 : decode cX3_mostOfLoads 29 = .ok (.iinc 5 1, 3) := by decide +kernel
theorem dX3_mostOfLoads_32 : decode cX3_mostOfLoads 32 = .ok (.goto (-26), 3) := by decide +kernel
theorem dX3_mostOfLoads_35 : decode cX3_mostOfLoads 35 = .ok (.iload 4, 2) := by decide +kernel
theorem dX3_mostOfLoads_37 : decode cX3_mostOfLoads 37 = .ok (.ireturn, 1) := by decide +kernel
theorem dX3_waysWith_0 : decode cX3_waysWith 0 = .ok (.aload_n 1, 1) := by decide +kernel
theorem dX3_waysWith_1 : decode cX3_waysWith 1 = .ok (.getfield 52, 3) := by decide +kernel
theorem dX3_waysWith_4 : decode cX3_waysWith 4 = .ok (.iload_n 2, 1) := by decide +kernel
theorem dX3_waysWith_5 : decode cX3_waysWith 5 = .ok (.iload_n 3, 1) := by decide +kernel
theorem dX3_waysWith_6 : decode cX3_waysWith 6 = .ok (.invokevirtual 56, 3) := by decide +kernel
theorem dX3_waysWith_9 : decode cX3_waysWith 9 = .ok (.aload_n 0, 1) := by decide +kernel
theorem dX3_waysWith_10 : decode cX3_waysWith 10 = .ok (.iload_n 2, 1) := by decide +kernel
theorem dX3_waysWith_11 : decode cX3_waysWith 11 = .ok (.iconst 1, 1) := by decide +kernel
theorem dX3_waysWith_12 : decode cX3_waysWith 12 = .ok (.iadd, 1) := by decide +kernel
theorem dX3_waysWith_13 : decode cX3_waysWith 13 = .ok (.iload 4, 2) := by decide +kernel
theorem dX3_waysWith_15 : decode cX3_waysWith 15 = .ok (.iload_n 3, 1) := by decide +kernel
theorem dX3_waysWith_16 : decode cX3_waysWith 16 = .ok (.isub, 1) := by decide +kernel
theorem dX3_waysWith_17 : decode cX3_waysWith 17 = .ok (.iconst 0, 1) := by decide +kernel
theorem dX3_waysWith_18 : decode cX3_waysWith 18 = .ok (.invokestatic 43, 3) := by decide +kernel
theorem dX3_waysWith_21 : decode cX3_waysWith 21 = .ok (.invokevirtual 29, 3) := by decide +kernel
theorem dX3_waysWith_24 : decode cX3_waysWith 24 = .ok (.imul, 1) := by decide +kernel
theorem dX3_waysWith_25 : decode cX3_waysWith 25 = .ok (.ireturn, 1) := by decide +kernel
theorem dX3_getMost_0 : decode cX3_getMost 0 = .ok (.iload_n 1, 1) := by decide +kernel
theorem dX3_getMost_1 : decode cX3_getMost 1 = .ok (.ifCond .lt 23, 3) := by decide +kernel
theorem dX3_getMost_4 : decode cX3_getMost 4 = .ok (.iload_n 1, 1) := by decide +kernel
theorem dX3_getMost_5 : decode cX3_getMost 5 = .ok (.bipush 6, 2) := by decide +kernel
theorem dX3_getMost_7 : decode cX3_getMost 7 = .ok (.if_icmp .gt 17, 3) := by decide +kernel
theorem dX3_getMost_10 : decode cX3_getMost 10 = .ok (.iload_n 2, 1) := by decide +kernel
theorem dX3_getMost_11 : decode cX3_getMost 11 = .ok (.ifCond .lt 13, 3) := by decide +kernel
theorem dX3_getMost_14 : decode cX3_getMost 14 = .ok (.iload_n 2, 1) := by decide +kernel
theorem dX3_getMost_15 : decode cX3_getMost 15 = .ok (.bipush 31, 2) := by decide +kernel
theorem dX3_getMost_17 : decode cX3_getMost 17 = .ok (.if_icmp .ge 7, 3) := by decide +kernel
theorem dX3_getMost_20 : decode cX3_getMost 20 = .ok (.iconst 1, 1) := by decide +kernel
theorem dX3_getMost_21 : decode cX3_getMost 21 = .ok (.goto 4, 3) := by decide +kernel
theorem dX3_getMost_24 : decode cX3_getMost 24 = .ok (.iconst 0, 1) := by decide +kernel
theorem dX3_getMost_25 : decode cX3_getMost 25 = .ok (.istore_n 3, 1) := by decide +kernel
theorem dX3_getMost_26 : decode cX3_getMost 26 = .ok (.iload_n 3, 1) := by decide +kernel
theorem dX3_getMost_27 : decode cX3_getMost 27 = .ok (.ifCond .eq 17, 3) := by decide +kernel
theorem dX3_getMost_30 : decode cX3_getMost 30 = .ok (.aload_n 0, 1) := by decide +kernel
theorem dX3_getMost_31 : decode cX3_getMost 31 = .ok (.getfield 9, 3) := by decide +kernel
theorem dX3_getMost_34 : decode cX3_getMost 34 = .ok (.iload_n 1, 1) := by decide +kernel
theorem dX3_getMost_35 : decode cX3_getMost 35 = .ok (.bipush 31, 2) := by decide +kernel
theorem dX3_getMost_37 : decode cX3_getMost 37 = .ok (.imul, 1) := by decide +kernel
theorem dX3_getMost_38 : decode cX3_getMost 38 = .ok (.iload_n 2, 1) := by decide +kernel
theorem dX3_getMost_39 : decode cX3_getMost 39 = .ok (.iadd, 1) := by decide +kernel
theorem dX3_getMost_40 : decode cX3_getMost 40 = .ok (.iaload, 1) := by decide +kernel
theorem dX3_getMost_41 : decode cX3_getMost 41 = .ok (.goto 4, 3) := by decide +kernel
theorem dX3_getMost_44 : decode cX3_getMost 44 = .ok (.iconst 0, 1) := by decide +kernel
theorem dX3_getMost_45 : decode cX3_getMost 45 = .ok (.ireturn, 1) := by decide +kernel
theorem dX3_setMost_0 : decode cX3_setMost 0 = .ok (.iload_n 1, 1) := by decide +kernel
theorem dX3_setMost_1 : decode cX3_setMost 1 = .ok (.ifCond .lt 31, 3) := by decide +kernel
theorem dX3_setMost_4 : decode cX3_setMost 4 = .ok (.iload_n 1, 1) := by decide +kernel
theorem dX3_setMost_5 : decode cX3_setMost 5 = .ok (.bipush 6, 2) := by decide +kernel
theorem dX3_setMost_7 : decode cX3_setMost 7 = .ok (.if_icmp .gt 25, 3) := by decide +kernel
theorem dX3_setMost_10 : decode cX3_setMost 10 = .ok (.iload_n 2, 1) := by decide +kernel
theorem dX3_setMost_11 : decode cX3_setMost 11 = .ok (.ifCond .lt 21, 3) := by decide +kernel
theorem dX3_setMost_14 : decode cX3_setMost 14 = .ok (.iload_n 2, 1) := by decide +kernel
theorem dX3_setMost_15 : decode cX3_setMost 15 = .ok (.bipush 31, 2) := by decide +kernel
theorem dX3_setMost_17 : decode cX3_setMost 17 = .ok (.if_icmp .ge 15, 3) := by decide +kernel
theorem dX3_setMost_20 : decode cX3_setMost 20 = .ok (.aload_n 0, 1) := by decide +kernel
theorem dX3_setMost_21 : decode cX3_setMost 21 = .ok (.getfield 9, 3) := by decide +kernel
theorem dX3_setMost_24 : decode cX3_setMost 24 = .ok (.iload_n 1, 1) := by decide +kernel
theorem dX3_setMost_25 : decode cX3_setMost 25 = .ok (.bipush 31, 2) := by decide +kernel
theorem dX3_setMost_27 : decode cX3_setMost 27 = .ok (.imul, 1) := by decide +kernel
theorem dX3_setMost_28 : decode cX3_setMost 28 = .ok (.iload_n 2, 1) := by decide +kernel
theorem dX3_setMost_29 : decode cX3_setMost 29 = .ok (.iadd, 1) := by decide +kernel
theorem dX3_setMost_30 : decode cX3_setMost 30 = .ok (.iload_n 3, 1) := by decide +kernel
theorem dX3_setMost_31 : decode cX3_setMost 31 = .ok (.iastore, 1) := by decide +kernel
theorem dX3_setMost_32 : decode cX3_setMost 32 = .ok (.return_, 1) := by decide +kernel
theorem dX4_init_0 : decode cX4_init 0 = .ok (.aload_n 0, 1) := by decide +kernel
theorem dX4_init_1 : decode cX4_init 1 = .ok (.invokespecial 3, 3) := by decide +kernel
theorem dX4_init_4 : decode cX4_init 4 = .ok (.aload_n 0, 1) := by decide +kernel
theorem dX4_init_5 : decode cX4_init 5 = .ok (.new 9, 3) := by decide +kernel
theorem dX4_init_8 : decode cX4_init 8 = .ok (.dup, 1) := by decide +kernel
theorem dX4_init_9 : decode cX4_init 9 = .ok (.invokespecial 11, 3) := by decide +kernel
theorem dX4_init_12 : decode cX4_init 12 = .ok (.putfield 12, 3) := by decide +kernel
theorem dX4_init_15 : decode cX4_init 15 = .ok (.aload_n 0, 1) := by decide +kernel
theorem dX4_init_16 : decode cX4_init 16 = .ok (.new 9, 3) := by decide +kernel
theorem dX4_init_19 : decode cX4_init 19 = .ok (.dup, 1) := by decide +kernel
theorem dX4_init_20 : decode cX4_init 20 = .ok (.invokespecial 11, 3) := by decide +kernel
theorem dX4_init_23 : decode cX4_init 23 = .ok (.putfield 18, 3) := by decide +kernel
theorem dX4_init_26 : decode cX4_init 26 = .ok (.aload_n 0, 1) := by decide +kernel
theorem dX4_init_27 : decode cX4_init 27 = .ok (.new 21, 3) := by decide +kernel
theorem dX4_init_30 : decode cX4_init 30 = .ok (.dup, 1) := by decide +kernel
theorem dX4_init_31 : decode cX4_init 31 = .ok (.invokespecial 23, 3) := by decide +kernel
theorem dX4_init_34 : decode cX4_init 34 = .ok (.putfield 24, 3) := by decide +kernel
theorem dX4_init_37 : decode cX4_init 37 = .ok (.aload_n 0, 1) := by decide +kernel
theorem dX4_init_38 : decode cX4_init 38 = .ok (.iconst 0, 1) := by decide +kernel
theorem dX4_init_39 : decode cX4_init 39 = .ok (.putfield 28, 3) := by decide +kernel
theorem dX4_init_42 : decode cX4_init 42 = .ok (.aload_n 0, 1) := by decide +kernel
theorem dX4_init_43 : decode cX4_init 43 = .ok (.bipush 10, 2) := by decide +kernel
theorem dX4_init_45 : decode cX4_init 45 = .ok (.putfield 32, 3) := by decide +kernel
theorem dX4_init_48 : decode cX4_init 48 = .ok (.aload_n 0, 1) := by decide +kernel
theorem dX4_init_49 : decode cX4_init 49 = .ok (.iconst 1, 1) := by decide +kernel
theorem dX4_init_50 : decode cX4_init 50 = .ok (.putfield 35, 3) := by decide +kernel
theorem dX4_init_53 : decode cX4_init 53 = .ok (.return_, 1) := by decide +kernel
theorem dX4_addEmptyPart_0 : decode cX4_addEmptyPart 0 = .ok (.aload_n 0, 1) := by decide +kernel
theorem dX4_addEmptyPart_1 : decode cX4_addEmptyPart 1 = .ok (.dup, 1) := by decide +kernel
theorem dX4_addEmptyPart_2 : decode cX4_addEmptyPart 2 = .ok (.getfield 28, 3) := by decide +kernel
theorem dX4_addEmptyPart_5 : decode cX4_addEmptyPart 5 = .ok (.iconst 1, 1) := by decide +kernel
theorem dX4_addEmptyPart_6 : decode cX4_addEmptyPart 6 = .ok (.iadd, 1) := by decide +kernel
theorem dX4_addEmptyPart_7 : decode cX4_addEmptyPart 7 = .ok (.putfield 28, 3) := by decide +kernel
theorem dX4_addEmptyPart_10 : decode cX4_addEmptyPart 10 = .ok (.aload_n 0, 1) := by decide +kernel
theorem dX4_addEmptyPart_11 : decode cX4_addEmptyPart 11 = .ok (.getfield 24, 3) := by decide +kernel
theorem dX4_addEmptyPart_14 : decode cX4_addEmptyPart 14 = .ok (.invokevirtual 38, 3) := by decide +kernel
theorem dX4_addEmptyPart_17 : decode cX4_addEmptyPart 17 = .ok (.aload_n 0, 1) := by decide +kernel
theorem dX4_addEmptyPart_18 : decode cX4_addEmptyPart 18 = .ok (.getfield 28, 3) := by decide +kernel
theorem dX4_addEmptyPart_21 : decode cX4_addEmptyPart 21 = .ok (.iconst 1, 1) := by decide +kernel
theorem dX4_addEmptyPart_22 : decode cX4_addEmptyPart 22 = .ok (.isub, 1) := by decide +kernel
theorem dX4_addEmptyPart_23 : decode cX4_addEmptyPart 23 = .ok (.ireturn, 1) := by decide +kernel
theorem dX4_dropPart_0 : decode cX4_dropPart 0 = .ok (.aload_n 0, 1) := by decide +kernel
theorem dX4_dropPart_1 : decode cX4_dropPart 1 = .ok (.getfield 12, 3) := by decide +kernel
theorem dX4_dropPart_4 : decode cX4_dropPart 4 = .ok (.iload_n 1, 1) := by decide +kernel
theorem dX4_dropPart_5 : decode cX4_dropPart 5 = .ok (.invokevirtual 41, 3) := by decide +kernel
theorem dX4_dropPart_8 : decode cX4_dropPart 8 = .ok (.aload_n 0, 1) := by decide +kernel
theorem dX4_dropPart_9 : decode cX4_dropPart 9 = .ok (.getfield 18, 3) := by decide +kernel
theorem dX4_dropPart_12 : decode cX4_dropPart 12 = .ok (.iload_n 1, 1) := by decide +kernel
theorem dX4_dropPart_13 : decode cX4_dropPart 13 = .ok (.invokevirtual 41, 3) := by decide +kernel
theorem dX4_dropPart_16 : decode cX4_dropPart 16 = .ok (.aload_n 0, 1) := by decide +kernel
theorem dX4_dropPart_17 : decode cX4_dropPart 17 = .ok (.dup, 1) := by decide +kernel
theorem dX4_dropPart_18 : decode cX4_dropPart 18 = .ok (.getfield 28, 3) := by decide +kernel
theorem dX4_dropPart_21 : decode cX4_dropPart 21 = .ok (.iconst 1, 1) := by decide +kernel
theorem dX4_dropPart_22 : decode cX4_dropPart 22 = .ok (.isub, 1) := by decide +kernel
theorem dX4_dropPart_23 : decode cX4_dropPart 23 = .ok (.putfield 28, 3) := by decide +kernel
theorem dX4_dropPart_26 : decode cX4_dropPart 26 = .ok (.aload_n 0, 1) := by decide +kernel
theorem dX4_dropPart_27 : decode cX4_dropPart 27 = .ok (.getfield 24, 3) := by decide +kernel
theorem dX4_dropPart_30 : decode cX4_dropPart 30 = .ok (.invokevirtual 38, 3) := by decide +kernel
theorem dX4_dropPart_33 : decode cX4_dropPart 33 = .ok (.return_, 1) := by decide +kernel
theorem dX4_setBothWeights_0 : decode cX4_setBothWeights 0 = .ok (.aload_n 0, 1) := by decide +kernel
theorem dX4_setBothWeights_1 : decode cX4_setBothWeights 1 = .ok (.getfield 12, 3) := by decide +kernel
theorem dX4_setBothWeights_4 : decode cX4_setBothWeights 4 = .ok (.iload_n 1, 1) := by decide +kernel
theorem dX4_setBothWeights_5 : decode cX4_setBothWeights 5 = .ok (.iload_n 2, 1) := by decide +kernel
theorem dX4_setBothWeights_6 : decode cX4_setBothWeights 6 = .ok (.iload_n 3, 1) := by decide +kernel
theorem dX4_setBothWeights_7 : decode cX4_setBothWeights 7 = .ok (.invokevirtual 45, 3) := by decide +kernel
theorem dX4_setBothWeights_10 : decode cX4_setBothWeights 10 = .ok (.aload_n 0, 1) := by decide +kernel
theorem dX4_setBothWeights_11 : decode cX4_setBothWeights 11 = .ok (.getfield 18, 3) := by decide +kernel
theorem dX4_setBothWeights_14 : decode cX4_setBothWeights 14 = .ok (.iload_n 1, 1) := by decide +kernel
theorem dX4_setBothWeights_15 : decode cX4_setBothWeights 15 = .ok (.iload_n 2, 1) := by decide +kernel
theorem dX4_setBothWeights_16 : decode cX4_setBothWeights 16 = .ok (.iload_n 3, 1) := by decide +kernel
theorem dX4_setBothWeights_17 : decode cX4_setBothWeights 17 = .ok (.invokevirtual 45, 3) := by decide +kernel
theorem dX4_setBothWeights_20 : decode cX4_setBothWeights 20 = .ok (.return_, 1) := by decide +kernel
theorem dX4_setWeight_0 : decode cX4_setWeight 0 = .ok (.iload_n 3, 1) := by decide +kernel
theorem dX4_setWeight_1 : decode cX4_setWeight 1 = .ok (.ifCond .eq 15, 3) := by decide +kernel
theorem dX4_setWeight_4 : decode cX4_setWeight 4 = .ok (.aload_n 0, 1) := by decide +kernel
theorem dX4_setWeight_5 : decode cX4_setWeight 5 = .ok (.getfield 12, 3) := by decide +kernel
theorem dX4_setWeight_8 : decode cX4_setWeight 8 = .ok (.iload_n 1, 1) := by decide +kernel
theorem dX4_setWeight_9 : decode cX4_setWeight 9 = .ok (.iload_n 2, 1) := by decide +kernel
theorem dX4_setWeight_10 : decode cX4_setWeight 10 = .ok (.invokevirtual 49, 3) := by decide +kernel
theorem dX4_setWeight_13 : decode cX4_setWeight 13 = .ok (.ifCond .ne 13, 3) := by decide +kernel
theorem dX4_setWeight_16 : decode cX4_setWeight 16 = .ok (.aload_n 0, 1) := by decide +kernel
theorem dX4_setWeight_17 : decode cX4_setWeight 17 = .ok (.getfield 18, 3) := by decide +kernel
theorem dX4_setWeight_20 : decode cX4_setWeight 20 = .ok (.iload_n 1, 1) := by decide +kernel
theorem dX4_setWeight_21 : decode cX4_setWeight 21 = .ok (.iload_n 2, 1) := by decide +kernel
theorem dX4_setWeight_22 : decode cX4_setWeight 22 = .ok (.iload_n 3, 1) := by decide +kernel
theorem dX4_setWeight_23 : decode cX4_setWeight 23 = .ok (.invokevirtual 45, 3) := by decide +kernel
theorem dX4_setWeight_26 : decode cX4_setWeight 26 = .ok (.aload_n 0, 1) := by decide +kernel
theorem dX4_setWeight_27 : decode cX4_setWeight 27 = .ok (.getfield 12, 3) := by decide +kernel
theorem dX4_setWeight_30 : decode cX4_setWeight 30 = .ok (.iload_n 1, 1) := by decide +kernel
theorem dX4_setWeight_31 : decode cX4_setWeight 31 = .ok (.iload_n 2, 1) := by decide +kernel
theorem dX4_setWeight_32 : decode cX4_setWeight 32 = .ok (.iload_n 3, 1) := by decide +kernel
theorem dX4_setWeight_33 : decode cX4_setWeight 33 = .ok (.invokevirtual 45, 3) := by decide +kernel
theorem dX4_setWeight_36 : decode cX4_setWeight 36 = .ok (.aload_n 0, 1) := by decide +kernel
theorem dX4_setWeight_37 : decode cX4_setWeight 37 = .ok (.getfield 24, 3) := by decide +kernel
theorem dX4_setWeight_40 : decode cX4_setWeight 40 = .ok (.invokevirtual 38, 3) := by decide +kernel
theorem dX4_setWeight_43 : decode cX4_setWeight 43 = .ok (.return_, 1) := by decide +kernel
theorem dX4_setTilted_0 : decode cX4_setTilted 0 = .ok (.aload_n 0, 1) := by decide +kernel
theorem dX4_setTilted_1 : decode cX4_setTilted 1 = .ok (.getfield 18, 3) := by decide +kernel
theorem dX4_setTilted_4 : decode cX4_setTilted 4 = .ok (.iload_n 1, 1) := by decide +kernel
theorem dX4_setTilted_5 : decode cX4_setTilted 5 = .ok (.iload_n 2, 1) := by decide +kernel
theorem dX4_setTilted_6 : decode cX4_setTilted 6 = .ok (.iload_n 3, 1) := by decide +kernel
theorem dX4_setTilted_7 : decode cX4_setTilted 7 = .ok (.invokevirtual 45, 3) := by decide +kernel
theorem dX4_setTilted_10 : decode cX4_setTilted 10 = .ok (.aload_n 0, 1) := by decide +kernel
theorem dX4_setTilted_11 : decode cX4_setTilted 11 = .ok (.getfield 24, 3) := by decide +kernel
theorem dX4_setTilted_14 : decode cX4_setTilted 14 = .ok (.invokevirtual 38, 3) := by decide +kernel
theorem dX4_setTilted_17 : decode cX4_setTilted 17 = .ok (.return_, 1) := by decide +kernel
theorem dX4_tiltBy_0 : decode cX4_tiltBy 0 = .ok (.iconst 0, 1) := by decide +kernel
theorem dX4_tiltBy_1 : decode cX4_tiltBy 1 = .ok (.istore_n 2, 1) := by decide +kernel
theorem dX4_tiltBy_2 : decode cX4_tiltBy 2 = .ok (.iload_n 2, 1) := by decide +kernel
theorem dX4_tiltBy_3 : decode cX4_tiltBy 3 = .ok (.aload_n 0, 1) := by decide +kernel
theorem dX4_tiltBy_4 : decode cX4_tiltBy 4 = .ok (.getfield 28, 3) := by decide +kernel
theorem dX4_tiltBy_7 : decode cX4_tiltBy 7 = .ok (.if_icmp .ge 56, 3) := by decide +kernel
theorem dX4_tiltBy_10 : decode cX4_tiltBy 10 = .ok (.iconst 0, 1) := by decide +kernel
theorem dX4_tiltBy_11 : decode cX4_tiltBy 11 = .ok (.istore_n 3, 1) := by decide +kernel
theorem dX4_tiltBy_12 : decode cX4_tiltBy 12 = .ok (.iload_n 3, 1) := by decide +kernel
theorem dX4_tiltBy_13 : decode cX4_tiltBy 13 = .ok (.bipush 6, 2) := by decide +kernel
theorem dX4_tiltBy_15 : decode cX4_tiltBy 15 = .ok (.if_icmp .ge 42, 3) := by decide +kernel
theorem dX4_tiltBy_18 : decode cX4_tiltBy 18 = .ok (.aload_n 0, 1) := by decide +kernel
theorem dX4_tiltBy_19 : decode cX4_tiltBy 19 = .ok (.getfield 12, 3) := by decide +kernel
theorem dX4_tiltBy_22 : decode cX4_tiltBy 22 = .ok (.iload_n 2, 1) := by decide +kernel
theorem dX4_tiltBy_23 : decode cX4_tiltBy 23 = .ok (.iload_n 3, 1) := by decide +kernel
theorem dX4_tiltBy_24 : decode cX4_tiltBy 24 = .ok (.invokevirtual 49, 3) := by decide +kernel
theorem dX4_tiltBy_27 : decode cX4_tiltBy 27 = .ok (.iconst 1, 1) := by decide +kernel
theorem dX4_tiltBy_28 : decode cX4_tiltBy 28 = .ok (.iload_n 3, 1) := by decide +kernel
theorem dX4_tiltBy_29 : decode cX4_tiltBy 29 = .ok (.iload_n 1, 1) := by decide +kernel
theorem dX4_tiltBy_30 : decode cX4_tiltBy 30 = .ok (.imul, 1) := by decide +kernel
theorem dX4_tiltBy_31 : decode cX4_tiltBy 31 = .ok (.iadd, 1) := by decide +kernel
theorem dX4_tiltBy_32 : decode cX4_tiltBy 32 = .ok (.imul, 1) := by decide +kernel
theorem dX4_tiltBy_33 : decode cX4_tiltBy 33 = .ok (.istore 4, 2) := by decide +kernel
theorem dX4_tiltBy_35 : decode cX4_tiltBy 35 = .ok (.aload_n 0, 1) := by decide +kernel
theorem dX4_tiltBy_36 : decode cX4_tiltBy 36 = .ok (.getfield 18, 3) := by decide +kernel
theorem dX4_tiltBy_39 : decode cX4_tiltBy 39 = .ok (.iload_n 2, 1) := by decide +kernel
theorem dX4_tiltBy_40 : decode cX4_tiltBy 40 = .ok (.iload_n 3, 1) := by decide +kernel
theorem dX4_tiltBy_41 : decode cX4_tiltBy 41 = .ok (.iload 4, 2) := by decide +kernel
theorem dX4_tiltBy_43 : decode cX4_tiltBy 43 = .ok (.bipush 99, 2) := by decide +kernel
theorem dX4_tiltBy_45 : decode cX4_tiltBy 45 = .ok (.invokestatic 53, 3) := by decide +kernel
theorem dX4_tiltBy_48 : decode cX4_tiltBy 48 = .ok (.invokevirtual 45, 3) := by decide +kernel
theorem dX4_tiltBy_51 : decode cX4_tiltBy 51 = .ok (.iinc 3 1, 3) := by decide +kernel
theorem dX4_tiltBy_54 : decode cX4_tiltBy 54 = .ok (.goto (-42), 3) := by decide +kernel
theorem dX4_tiltBy_57 : decode cX4_tiltBy 57 = .ok (.iinc 2 1, 3) := by decide +kernel
theorem dX4_tiltBy_60 : decode cX4_tiltBy 60 = .ok (.goto (-58), 3) := by decide +kernel
theorem dX4_tiltBy_63 : decode cX4_tiltBy 63 = .ok (.aload_n 0, 1) := by decide +kernel
theorem dX4_tiltBy_64 : decode cX4_tiltBy 64 = .ok (.getfield 24, 3) := by decide +kernel
theorem dX4_tiltBy_67 : decode cX4_tiltBy 67 = .ok (.invokevirtual 38, 3) := by decide +kernel
theorem dX4_tiltBy_70 : decode cX4_tiltBy 70 = .ok (.return_, 1) := by decide +kernel
theorem dX4_setLimit_0 : decode cX4_setLimit 0 = .ok (.aload_n 0, 1) := by decide +kernel
theorem dX4_setLimit_1 : decode cX4_setLimit 1 = .ok (.iload_n 1, 1) := by decide +kernel
theorem dX4_setLimit_2 : decode cX4_setLimit 2 = .ok (.putfield 32, 3) := by decide +kernel
theorem dX4_setLimit_5 : decode cX4_setLimit 5 = .ok (.aload_n 0, 1) := by decide +kernel
theorem dX4_setLimit_6 : decode cX4_setLimit 6 = .ok (.getfield 24, 3) := by decide +kernel
theorem dX4_setLimit_9 : decode cX4_setLimit 9 = .ok (.invokevirtual 38, 3) := by decide +kernel
theorem dX4_setLimit_12 : decode cX4_setLimit 12 = .ok (.return_, 1) := by decide +kernel
theorem dX4_sumOfTiltedTotals_0 : decode cX4_sumOfTiltedTotals 0 = .ok (.iconst 0, 1) := by decide +kernel
theorem dX4_sumOfTiltedTotals_1 : decode cX4_sumOfTiltedTotals 1 = .ok (.istore_n 1, 1) := by decide +kernel
theorem dX4_sumOfTiltedTotals_2 : decode cX4_sumOfTiltedTotals 2 = .ok (.iconst 0, 1) := by decide +kernel
theorem dX4_sumOfTiltedTotals_3 : decode cX4_sumOfTiltedTotals 3 = .ok (.istore_n 2, 1) := by decide +kernel
theorem dX4_sumOfTiltedTotals_4 : decode cX4_sumOfTiltedTotals 4 = .ok (.iload_n 2, 1) := by decide +kernel
theorem dX4_sumOfTiltedTotals_5 : decode cX4_sumOfTiltedTotals 5 = .ok (.aload_n 0, 1) := by decide +kernel
theorem dX4_sumOfTiltedTotals_6 : decode cX4_sumOfTiltedTotals 6 = .ok (.getfield 28, 3) := by decide +kernel
theorem dX4_sumOfTiltedTotals_9 : decode cX4_sumOfTiltedTotals 9 = .ok (.if_icmp .ge 20, 3) := by decide +kernel
theorem dX4_sumOfTiltedTotals_12 : decode cX4_sumOfTiltedTotals 12 = .ok (.iload_n 1, 1) := by decide +kernel
theorem dX4_sumOfTiltedTotals_13 : decode cX4_sumOfTiltedTotals 13 = .ok (.aload_n 0, 1) := by decide +kernel
theorem dX4_sumOfTiltedTotals_14 : decode cX4_sumOfTiltedTotals 14 = .ok (.getfield 18, 3) := by decide +kernel
theorem dX4_sumOfTiltedTotals_17 : decode cX4_sumOfTiltedTotals 17 = .ok (.iload_n 2, 1) := by decide +kernel
theorem dX4_sumOfTiltedTotals_18 : decode cX4_sumOfTiltedTotals 18 = .ok (.invokevirtual 58, 3) := by decide +kernel
theorem dX4_sumOfTiltedTotals_21 : decode cX4_sumOfTiltedTotals 21 = .ok (.iadd, 1) := by decide +kernel
theorem dX4_sumOfTiltedTotals_22 : decode cX4_sumOfTiltedTotals 22 = .ok (.istore_n 1, 1) := by decide +kernel
theorem dX4_sumOfTiltedTotals_23 : decode cX4_sumOfTiltedTotals 23 = .ok (.iinc 2 1, 3) := by decide +kernel
theorem dX4_sumOfTiltedTotals_26 : decode cX4_sumOfTiltedTotals 26 = .ok (.goto (-22), 3) := by decide +kernel
theorem dX4_sumOfTiltedTotals_29 : decode cX4_sumOfTiltedTotals 29 = .ok (.iload_n 1, 1) := by decide +kernel
theorem dX4_sumOfTiltedTotals_30 : decode cX4_sumOfTiltedTotals 30 = .ok (.ireturn, 1) := by decide +kernel
theorem dX4_leastSum_0 : decode cX4_leastSum 0 = .ok (.iconst 0, 1) := by decide +kernel
theorem dX4_leastSum_1 : decode cX4_leastSum 1 = .ok (.istore_n 1, 1) := by decide +kernel
theorem dX4_leastSum_2 : decode cX4_leastSum 2 = .ok (.iconst 0, 1) := by decide +kernel
theorem dX4_leastSum_3 : decode cX4_leastSum 3 = .ok (.istore_n 2, 1) := by decide +kernel
theorem dX4_leastSum_4 : decode cX4_leastSum 4 = .ok (.iload_n 2, 1) := by decide +kernel
theorem dX4_leastSum_5 : decode cX4_leastSum 5 = .ok (.aload_n 0, 1) := by decide +kernel
theorem dX4_leastSum_6 : decode cX4_leastSum 6 = .ok (.getfield 28, 3) := by decide +kernel
theorem dX4_leastSum_9 : decode cX4_leastSum 9 = .ok (.if_icmp .ge 20, 3) := by decide +kernel
theorem dX4_leastSum_12 : decode cX4_leastSum 12 = .ok (.iload_n 1, 1) := by decide +kernel
theorem dX4_leastSum_13 : decode cX4_leastSum 13 = .ok (.aload_n 0, 1) := by decide +kernel
theorem dX4_leastSum_14 : decode cX4_leastSum 14 = .ok (.getfield 12, 3) := by decide +kernel
theorem dX4_leastSum_17 : decode cX4_leastSum 17 = .ok (.iload_n 2, 1) := by decide +kernel
theorem dX4_leastSum_18 : decode cX4_leastSum 18 = .ok (.invokevirtual 62, 3) := by decide +kernel
theorem dX4_leastSum_21 : decode cX4_leastSum 21 = .ok (.iadd, 1) := by decide +kernel
theorem dX4_leastSum_22 : decode cX4_leastSum 22 = .ok (.istore_n 1, 1) := by decide +kernel
theorem dX4_leastSum_23 : decode cX4_leastSum 23 = .ok (.iinc 2 1, 3) := by decide +kernel
theorem dX4_leastSum_26 : decode cX4_leastSum 26 = .ok (.goto (-22), 3) := by decide +kernel
theorem dX4_leastSum_29 : decode cX4_leastSum 29 = .ok (.iload_n 1, 1) := by decide +kernel
theorem dX4_leastSum_30 : decode cX4_leastSum 30 = .ok (.ireturn, 1) := by decide +kernel
theorem dX4_greatestSum_0 : decode cX4_greatestSum 0 = .ok (.iconst 0, 1) := by decide +kernel
theorem dX4_greatestSum_1 : decode cX4_greatestSum 1 = .ok (.istore_n 1, 1) := by decide +kernel
theorem dX4_greatestSum_2 : decode cX4_greatestSum 2 = .ok (.iconst 0, 1) := by decide +kernel
theorem dX4_greatestSum_3 : decode cX4_greatestSum 3 = .ok (.istore_n 2, 1) := by decide +kernel
theorem dX4_greatestSum_4 : decode cX4_greatestSum 4 = .ok (.iload_n 2, 1) := by decide +kernel
theorem dX4_greatestSum_5 : decode cX4_greatestSum 5 = .ok (.aload_n 0, 1) := by decide +kernel
theorem dX4_greatestSum_6 : decode cX4_greatestSum 6 = .ok (.getfield 28, 3) := by decide +kernel
theorem dX4_greatestSum_9 : decode cX4_greatestSum 9 = .ok (.if_icmp .ge 20, 3) := by decide +kernel
theorem dX4_greatestSum_12 : decode cX4_greatestSum 12 = .ok (.iload_n 1, 1) := by decide +kernel
theorem dX4_greatestSum_13 : decode cX4_greatestSum 13 = .ok (.aload_n 0, 1) := by decide +kernel
theorem dX4_greatestSum_14 : decode cX4_greatestSum 14 = .ok (.getfield 12, 3) := by decide +kernel
theorem dX4_greatestSum_17 : decode cX4_greatestSum 17 = .ok (.iload_n 2, 1) := by decide +kernel
theorem dX4_greatestSum_18 : decode cX4_greatestSum 18 = .ok (.invokevirtual 65, 3) := by decide +kernel
theorem dX4_greatestSum_21 : decode cX4_greatestSum 21 = .ok (.iadd, 1) := by decide +kernel
theorem dX4_greatestSum_22 : decode cX4_greatestSum 22 = .ok (.istore_n 1, 1) := by decide +kernel
theorem dX4_greatestSum_23 : decode cX4_greatestSum 23 = .ok (.iinc 2 1, 3) := by decide +kernel
theorem dX4_greatestSum_26 : decode cX4_greatestSum 26 = .ok (.goto (-22), 3) := by decide +kernel
theorem dX4_greatestSum_29 : decode cX4_greatestSum 29 = .ok (.iload_n 1, 1) := by decide +kernel
theorem dX4_greatestSum_30 : decode cX4_greatestSum 30 = .ok (.ireturn, 1) := by decide +kernel
theorem dX4_drawRow_0 : decode cX4_drawRow 0 = .ok (.iconst 0, 1) := by decide +kernel
theorem dX4_drawRow_1 : decode cX4_drawRow 1 = .ok (.istore_n 1, 1) := by decide +kernel
theorem dX4_drawRow_2 : decode cX4_drawRow 2 = .ok (.dconst 1, 1) := by decide +kernel
theorem dX4_drawRow_3 : decode cX4_drawRow 3 = .ok (.dstore_n 2, 1) := by decide +kernel
theorem dX4_drawRow_4 : decode cX4_drawRow 4 = .ok (.iconst 0, 1) := by decide +kernel
theorem dX4_drawRow_5 : decode cX4_drawRow 5 = .ok (.istore 4, 2) := by decide +kernel
theorem dX4_drawRow_7 : decode cX4_drawRow 7 = .ok (.iload 4, 2) := by decide +kernel
theorem dX4_drawRow_9 : decode cX4_drawRow 9 = .ok (.aload_n 0, 1) := by decide +kernel
theorem dX4_drawRow_10 : decode cX4_drawRow 10 = .ok (.getfield 28, 3) := by decide +kernel
theorem dX4_drawRow_13 : decode cX4_drawRow 13 = .ok (.if_icmp .ge 43, 3) := by decide +kernel
theorem dX4_drawRow_16 : decode cX4_drawRow 16 = .ok (.aload_n 0, 1) := by decide +kernel
theorem dX4_drawRow_17 : decode cX4_drawRow 17 = .ok (.iload 4, 2) := by decide +kernel
theorem dX4_drawRow_19 : decode cX4_drawRow 19 = .ok (.invokevirtual 68, 3) := by decide +kernel
theorem dX4_drawRow_22 : decode cX4_drawRow 22 = .ok (.istore 5, 2) := by decide +kernel
theorem dX4_drawRow_24 : decode cX4_drawRow 24 = .ok (.aload_n 0, 1) := by decide +kernel
theorem dX4_drawRow_25 : decode cX4_drawRow 25 = .ok (.getfield 24, 3) := by decide +kernel
theorem dX4_drawRow_28 : decode cX4_drawRow 28 = .ok (.iload 4, 2) := by decide +kernel
theorem dX4_drawRow_30 : decode cX4_drawRow 30 = .ok (.iload 5, 2) := by decide +kernel
theorem dX4_drawRow_32 : decode cX4_drawRow 32 = .ok (.invokevirtual 71, 3) := by decide +kernel
theorem dX4_drawRow_35 : decode cX4_drawRow 35 = .ok (.iload_n 1, 1) := by decide +kernel
theorem dX4_drawRow_36 : decode cX4_drawRow 36 = .ok (.iload 5, 2) := by decide +kernel
theorem dX4_drawRow_38 : decode cX4_drawRow 38 = .ok (.iadd, 1) := by decide +kernel
theorem dX4_drawRow_39 : decode cX4_drawRow 39 = .ok (.istore_n 1, 1) := by decide +kernel
theorem dX4_drawRow_40 : decode cX4_drawRow 40 = .ok (.aload_n 0, 1) := by decide +kernel
theorem dX4_drawRow_41 : decode cX4_drawRow 41 = .ok (.dload_n 2, 1) := by decide +kernel
theorem dX4_drawRow_42 : decode cX4_drawRow 42 = .ok (.iload 4, 2) := by decide +kernel
theorem dX4_drawRow_44 : decode cX4_drawRow 44 = .ok (.iload 5, 2) := by decide +kernel
theorem dX4_drawRow_46 : decode cX4_drawRow 46 = .ok (.invokevirtual 75, 3) := by decide +kernel
theorem dX4_drawRow_49 : decode cX4_drawRow 49 = .ok (.dstore_n 2, 1) := by decide +kernel
theorem dX4_drawRow_50 : decode cX4_drawRow 50 = .ok (.iinc 4 1, 3) := by decide +kernel
theorem dX4_drawRow_53 : decode cX4_drawRow 53 = .ok (.goto (-46), 3) := by decide +kernel
theorem dX4_drawRow_56 : decode cX4_drawRow 56 = .ok (.aload_n 0, 1) := by decide +kernel
theorem dX4_drawRow_57 : decode cX4_drawRow 57 = .ok (.getfield 24, 3) := by decide +kernel
theorem dX4_drawRow_60 : decode cX4_drawRow 60 = .ok (.dload_n 2, 1) := by decide +kernel
theorem dX4_drawRow_61 : decode cX4_drawRow 61 = .ok (.iload_n 1, 1) := by decide +kernel
theorem dX4_drawRow_62 : decode cX4_drawRow 62 = .ok (.aload_n 0, 1) := by decide +kernel
theorem dX4_drawRow_63 : decode cX4_drawRow 63 = .ok (.getfield 32, 3) := by decide +kernel
theorem dX4_drawRow_66 : decode cX4_drawRow 66 = .ok (.if_icmp .lt 7, 3) := by decide +kernel
theorem dX4_drawRow_69 : decode cX4_drawRow 69 = .ok (.iconst 1, 1) := by decide +kernel
theorem dX4_drawRow_70 : decode cX4_drawRow 70 = .ok (.goto 4, 3) := by decide +kernel
theorem dX4_drawRow_73 : decode cX4_drawRow 73 = .ok (.iconst 0, 1) := by decide +kernel
theorem dX4_drawRow_74 : decode cX4_drawRow 74 = .ok (.invokevirtual 79, 3) := by decide +kernel
theorem dX4_drawRow_77 : decode cX4_drawRow 77 = .ok (.return_, 1) := by decide +kernel
theorem dX4_drawLoad_0 : decode cX4_drawLoad 0 = .ok (.aload_n 0, 1) := by decide +kernel
theorem dX4_drawLoad_1 : decode cX4_drawLoad 1 = .ok (.aload_n 0, 1) := by decide +kernel
theorem dX4_drawLoad_2 : decode cX4_drawLoad 2 = .ok (.getfield 35, 3) := by decide +kernel
theorem dX4_drawLoad_5 : decode cX4_drawLoad 5 = .ok (.i2l, 1) := by decide +kernel
theorem dX4_drawLoad_6 : decode cX4_drawLoad 6 = .ok (.ldc2_w 83, 3) := by decide +kernel
theorem dX4_drawLoad_9 : decode cX4_drawLoad 9 = .ok (.lmul, 1) := by decide +kernel
theorem dX4_drawLoad_10 : decode cX4_drawLoad 10 = .ok (.ldc2_w 85, 3) := by decide +kernel
theorem dX4_drawLoad_13 : decode cX4_drawLoad 13 = .ok (.ladd, 1) := by decide +kernel
theorem dX4_drawLoad_14 : decode cX4_drawLoad 14 = .ok (.ldc2_w 87, 3) := by decide +kernel
theorem dX4_drawLoad_17 : decode cX4_drawLoad 17 = .ok (.lrem, 1) := by decide +kernel
theorem dX4_drawLoad_18 : decode cX4_drawLoad 18 = .ok (.l2i, 1) := by decide +kernel
theorem dX4_drawLoad_19 : decode cX4_drawLoad 19 = .ok (.putfield 35, 3) := by decide +kernel
theorem dX4_drawLoad_22 : decode cX4_drawLoad 22 = .ok (.aload_n 0, 1) := by decide +kernel
theorem dX4_drawLoad_23 : decode cX4_drawLoad 23 = .ok (.getfield 18, 3) := by decide +kernel
theorem dX4_drawLoad_26 : decode cX4_drawLoad 26 = .ok (.iload_n 1, 1) := by decide +kernel
theorem dX4_drawLoad_27 : decode cX4_drawLoad 27 = .ok (.invokevirtual 58, 3) := by decide +kernel
theorem dX4_drawLoad_30 : decode cX4_drawLoad 30 = .ok (.istore_n 2, 1) := by decide +kernel
theorem dX4_drawLoad_31 : decode cX4_drawLoad 31 = .ok (.iload_n 2, 1) := by decide +kernel
theorem dX4_drawLoad_32 : decode cX4_drawLoad 32 = .ok (.ifCond .le 15, 3) := by decide +kernel
theorem dX4_drawLoad_35 : decode cX4_drawLoad 35 = .ok (.aload_n 0, 1) := by decide +kernel
theorem dX4_drawLoad_36 : decode cX4_drawLoad 36 = .ok (.getfield 35, 3) := by decide +kernel
theorem dX4_drawLoad_39 : decode cX4_drawLoad 39 = .ok (.ldc 89, 2) := by decide +kernel
theorem dX4_drawLoad_41 : decode cX4_drawLoad 41 = .ok (.idiv, 1) := by decide +kernel
theorem dX4_drawLoad_42 : decode cX4_drawLoad 42 = .ok (.iload_n 2, 1) := by decide +kernel
theorem dX4_drawLoad_43 : decode cX4_drawLoad 43 = .ok (.irem, 1) := by decide +kernel
theorem dX4_drawLoad_44 : decode cX4_drawLoad 44 = .ok (.goto 4, 3) := by decide +kernel
theorem dX4_drawLoad_47 : decode cX4_drawLoad 47 = .ok (.iconst 0, 1) := by decide +kernel
theorem dX4_drawLoad_48 : decode cX4_drawLoad 48 = .ok (.istore_n 3, 1) := by decide +kernel
theorem dX4_drawLoad_49 : decode cX4_drawLoad 49 = .ok (.iconst 0, 1) := by decide +kernel
theorem dX4_drawLoad_50 : decode cX4_drawLoad 50 = .ok (.istore 4, 2) := by decide +kernel
theorem dX4_drawLoad_52 : decode cX4_drawLoad 52 = .ok (.iconst 0, 1) := by decide +kernel
theorem dX4_drawLoad_53 : decode cX4_drawLoad 53 = .ok (.istore 5, 2) := by decide +kernel
theorem dX4_drawLoad_55 : decode cX4_drawLoad 55 = .ok (.iload 5, 2) := by decide +kernel
theorem dX4_drawLoad_57 : decode cX4_drawLoad 57 = .ok (.bipush 6, 2) := by decide +kernel
theorem dX4_drawLoad_59 : decode cX4_drawLoad 59 = .ok (.if_icmp .ge 33, 3) := by decide +kernel
theorem dX4_drawLoad_62 : decode cX4_drawLoad 62 = .ok (.iload 4, 2) := by decide +kernel
theorem dX4_drawLoad_64 : decode cX4_drawLoad 64 = .ok (.aload_n 0, 1) := by decide +kernel
theorem dX4_drawLoad_65 : decode cX4_drawLoad 65 = .ok (.getfield 18, 3) := by decide +kernel
theorem dX4_drawLoad_68 : decode cX4_drawLoad 68 = .ok (.iload_n 1, 1) := by decide +kernel
theorem dX4_drawLoad_69 : decode cX4_drawLoad 69 = .ok (.iload 5, 2) := by decide +kernel
theorem dX4_drawLoad_71 : decode cX4_drawLoad 71 = .ok (.invokevirtual 49, 3) := by decide +kernel
theorem dX4_drawLoad_74 : decode cX4_drawLoad 74 = .ok (.iadd, 1) := by decide +kernel
theorem dX4_drawLoad_75 : decode cX4_drawLoad 75 = .ok (.istore 4, 2) := by decide +kernel
theorem dX4_drawLoad_77 : decode cX4_drawLoad 77 = .ok (.iload 4, 2) := by decide +kernel
theorem dX4_drawLoad_79 : decode cX4_drawLoad 79 = .ok (.iload_n 3, 1) := by decide +kernel
theorem dX4_drawLoad_80 : decode cX4_drawLoad 80 = .ok (.if_icmp .le 6, 3) := by decide +kernel
theorem dX4_drawLoad_83 : decode cX4_drawLoad 83 = .ok (.iload 5, 2) := by decide +kernel
theorem dX4_drawLoad_85 : decode cX4_drawLoad 85 = .ok (.ireturn, 1) := by decide +kernel
theorem dX4_drawLoad_86 : decode cX4_drawLoad 86 = .ok (.iinc 5 1, 3) := by decide +kernel
theorem dX4_drawLoad_89 : decode cX4_drawLoad 89 = .ok (.goto (-34), 3) := by decide +kernel
theorem dX4_drawLoad_92 : decode cX4_drawLoad 92 = .ok (.iconst 5, 1) := by decide +kernel
theorem dX4_drawLoad_93 : decode cX4_drawLoad 93 = .ok (.ireturn, 1) := by decide +kernel
theorem dX4_corrected_0 : decode cX4_corrected 0 = .ok (.aload_n 0, 1) := by decide +kernel
theorem dX4_corrected_1 : decode cX4_corrected 1 = .ok (.getfield 12, 3) := by decide +kernel
theorem dX4_corrected_4 : decode cX4_corrected 4 = .ok (.iload_n 3, 1) := by decide +kernel
theorem dX4_corrected_5 : decode cX4_corrected 5 = .ok (.invokevirtual 58, 3) := by decide +kernel
theorem dX4_corrected_8 : decode cX4_corrected 8 = .ok (.istore 5, 2) := by decide +kernel
theorem dX4_corrected_10 : decode cX4_corrected 10 = .ok (.aload_n 0, 1) := by decide +kernel
theorem dX4_corrected_11 : decode cX4_corrected 11 = .ok (.getfield 18, 3) := by decide +kernel
theorem dX4_corrected_14 : decode cX4_corrected 14 = .ok (.iload_n 3, 1) := by decide +kernel
theorem dX4_corrected_15 : decode cX4_corrected 15 = .ok (.iload 4, 2) := by decide +kernel
theorem dX4_corrected_17 : decode cX4_corrected 17 = .ok (.invokevirtual 49, 3) := by decide +kernel
theorem dX4_corrected_20 : decode cX4_corrected 20 = .ok (.istore 6, 2) := by decide +kernel
theorem dX4_corrected_22 : decode cX4_corrected 22 = .ok (.iload 5, 2) := by decide +kernel
theorem dX4_corrected_24 : decode cX4_corrected 24 = .ok (.ifCond .le 8, 3) := by decide +kernel
theorem dX4_corrected_27 : decode cX4_corrected 27 = .ok (.iload 6, 2) := by decide +kernel
theorem dX4_corrected_29 : decode cX4_corrected 29 = .ok (.ifCond .gt 5, 3) := by decide +kernel
theorem dX4_corrected_32 : decode cX4_corrected 32 = .ok (.dconst 0, 1) := by decide +kernel
theorem dX4_corrected_33 : decode cX4_corrected 33 = .ok (.dreturn, 1) := by decide +kernel
theorem dX4_corrected_34 : decode cX4_corrected 34 = .ok (.dload_n 1, 1) := by decide +kernel
theorem dX4_corrected_35 : decode cX4_corrected 35 = .ok (.aload_n 0, 1) := by decide +kernel
theorem dX4_corrected_36 : decode cX4_corrected 36 = .ok (.getfield 12, 3) := by decide +kernel
theorem dX4_corrected_39 : decode cX4_corrected 39 = .ok (.iload_n 3, 1) := by decide +kernel
theorem dX4_corrected_40 : decode cX4_corrected 40 = .ok (.iload 4, 2) := by decide +kernel
theorem dX4_corrected_42 : decode cX4_corrected 42 = .ok (.invokevirtual 49, 3) := by decide +kernel
theorem dX4_corrected_45 : decode cX4_corrected 45 = .ok (.i2d, 1) := by decide +kernel
theorem dX4_corrected_46 : decode cX4_corrected 46 = .ok (.dmul, 1) := by decide +kernel
theorem dX4_corrected_47 : decode cX4_corrected 47 = .ok (.aload_n 0, 1) := by decide +kernel
theorem dX4_corrected_48 : decode cX4_corrected 48 = .ok (.getfield 18, 3) := by decide +kernel
theorem dX4_corrected_51 : decode cX4_corrected 51 = .ok (.iload_n 3, 1) := by decide +kernel
theorem dX4_corrected_52 : decode cX4_corrected 52 = .ok (.invokevirtual 58, 3) := by decide +kernel
theorem dX4_corrected_55 : decode cX4_corrected 55 = .ok (.i2d, 1) := by decide +kernel
theorem dX4_corrected_56 : decode cX4_corrected 56 = .ok (.dmul, 1) := by decide +kernel
theorem dX4_corrected_57 : decode cX4_corrected 57 = .ok (.iload 5, 2) := by decide +kernel
theorem dX4_corrected_59 : decode cX4_corrected 59 = .ok (.i2d, 1) := by decide +kernel
theorem dX4_corrected_60 : decode cX4_corrected 60 = .ok (.ddiv, 1) := by decide +kernel
theorem dX4_corrected_61 : decode cX4_corrected 61 = .ok (.iload 6, 2) := by decide +kernel
theorem dX4_corrected_63 : decode cX4_corrected 63 = .ok (.i2d, 1) := by decide +kernel
theorem dX4_corrected_64 : decode cX4_corrected 64 = .ok (.ddiv, 1) := by decide +kernel
theorem dX4_corrected_65 : decode cX4_corrected 65 = .ok (.dreturn, 1) := by decide +kernel
theorem dX4_copyFrom_0 : decode cX4_copyFrom 0 = .ok (.aload_n 0, 1) := by decide +kernel
theorem dX4_copyFrom_1 : decode cX4_copyFrom 1 = .ok (.getfield 12, 3) := by decide +kernel
theorem dX4_copyFrom_4 : decode cX4_copyFrom 4 = .ok (.aload_n 1, 1) := by decide +kernel
theorem dX4_copyFrom_5 : decode cX4_copyFrom 5 = .ok (.getfield 12, 3) := by decide +kernel
theorem dX4_copyFrom_8 : decode cX4_copyFrom 8 = .ok (.invokevirtual 90, 3) := by decide +kernel
theorem dX4_copyFrom_11 : decode cX4_copyFrom 11 = .ok (.aload_n 0, 1) := by decide +kernel
theorem dX4_copyFrom_12 : decode cX4_copyFrom 12 = .ok (.getfield 18, 3) := by decide +kernel
theorem dX4_copyFrom_15 : decode cX4_copyFrom 15 = .ok (.aload_n 1, 1) := by decide +kernel
theorem dX4_copyFrom_16 : decode cX4_copyFrom 16 = .ok (.getfield 18, 3) := by decide +kernel
theorem dX4_copyFrom_19 : decode cX4_copyFrom 19 = .ok (.invokevirtual 90, 3) := by decide +kernel
theorem dX4_copyFrom_22 : decode cX4_copyFrom 22 = .ok (.aload_n 0, 1) := by decide +kernel
theorem dX4_copyFrom_23 : decode cX4_copyFrom 23 = .ok (.getfield 24, 3) := by decide +kernel
theorem dX4_copyFrom_26 : decode cX4_copyFrom 26 = .ok (.aload_n 1, 1) := by decide +kernel
theorem dX4_copyFrom_27 : decode cX4_copyFrom 27 = .ok (.getfield 24, 3) := by decide +kernel
theorem dX4_copyFrom_30 : decode cX4_copyFrom 30 = .ok (.invokevirtual 94, 3) := by decide +kernel
theorem dX4_copyFrom_33 : decode cX4_copyFrom 33 = .ok (.aload_n 0, 1) := by decide +kernel
theorem dX4_copyFrom_34 : decode cX4_copyFrom 34 = .ok (.aload_n 1, 1) := by decide +kernel
theorem dX4_copyFrom_35 : decode cX4_copyFrom 35 = .ok (.getfield 28, 3) := by decide +kernel
theorem dX4_copyFrom_38 : decode cX4_copyFrom 38 = .ok (.putfield 28, 3) := by decide +kernel
theorem dX4_copyFrom_41 : decode cX4_copyFrom 41 = .ok (.aload_n 0, 1) := by decide +kernel
theorem dX4_copyFrom_42 : decode cX4_copyFrom 42 = .ok (.aload_n 1, 1) := by decide +kernel
theorem dX4_copyFrom_43 : decode cX4_copyFrom 43 = .ok (.getfield 32, 3) := by decide +kernel
theorem dX4_copyFrom_46 : decode cX4_copyFrom 46 = .ok (.putfield 32, 3) := by decide +kernel
theorem dX4_copyFrom_49 : decode cX4_copyFrom 49 = .ok (.aload_n 0, 1) := by decide +kernel
theorem dX4_copyFrom_50 : decode cX4_copyFrom 50 = .ok (.aload_n 1, 1) := by decide +kernel
theorem dX4_copyFrom_51 : decode cX4_copyFrom 51 = .ok (.getfield 35, 3) := by decide +kernel
theorem dX4_copyFrom_54 : decode cX4_copyFrom 54 = .ok (.putfield 35, 3) := by decide +kernel
theorem dX4_copyFrom_57 : decode cX4_copyFrom 57 = .ok (.return_, 1) := by decide +kernel
theorem dX5_init_0 : decode cX5_init 0 = .ok (.aload_n 0, 1) := by decide +kernel
theorem dX5_init_1 : decode cX5_init 1 = .ok (.invokespecial 3, 3) := by decide +kernel
theorem dX5_init_4 : decode cX5_init 4 = .ok (.aload_n 0, 1) := by decide +kernel
theorem dX5_init_5 : decode cX5_init 5 = .ok (.bipush 6, 2) := by decide +kernel
theorem dX5_init_7 : decode cX5_init 7 = .ok (.newarray .int, 2) := by decide +kernel
theorem dX5_init_9 : decode cX5_init 9 = .ok (.putfield 9, 3) := by decide +kernel
theorem dX5_init_12 : decode cX5_init 12 = .ok (.return_, 1) := by decide +kernel
theorem dX5_clear_0 : decode cX5_clear 0 = .ok (.aload_n 0, 1) := by decide +kernel
theorem dX5_clear_1 : decode cX5_clear 1 = .ok (.iconst 0, 1) := by decide +kernel
theorem dX5_clear_2 : decode cX5_clear 2 = .ok (.putfield 15, 3) := by decide +kernel
theorem dX5_clear_5 : decode cX5_clear 5 = .ok (.aload_n 0, 1) := by decide +kernel
theorem dX5_clear_6 : decode cX5_clear 6 = .ok (.iconst 0, 1) := by decide +kernel
theorem dX5_clear_7 : decode cX5_clear 7 = .ok (.putfield 19, 3) := by decide +kernel
theorem dX5_clear_10 : decode cX5_clear 10 = .ok (.aload_n 0, 1) := by decide +kernel
theorem dX5_clear_11 : decode cX5_clear 11 = .ok (.dconst 0, 1) := by decide +kernel
theorem dX5_clear_12 : decode cX5_clear 12 = .ok (.putfield 22, 3) := by decide +kernel
theorem dX5_clear_15 : decode cX5_clear 15 = .ok (.aload_n 0, 1) := by decide +kernel
theorem dX5_clear_16 : decode cX5_clear 16 = .ok (.dconst 0, 1) := by decide +kernel
theorem dX5_clear_17 : decode cX5_clear 17 = .ok (.putfield 26, 3) := by decide +kernel
theorem dX5_clear_20 : decode cX5_clear 20 = .ok (.aload_n 0, 1) := by decide +kernel
theorem dX5_clear_21 : decode cX5_clear 21 = .ok (.dconst 0, 1) := by decide +kernel
theorem dX5_clear_22 : decode cX5_clear 22 = .ok (.putfield 29, 3) := by decide +kernel
theorem dX5_clear_25 : decode cX5_clear 25 = .ok (.aload_n 0, 1) := by decide +kernel
theorem dX5_clear_26 : decode cX5_clear 26 = .ok (.dconst 0, 1) := by decide +kernel
theorem dX5_clear_27 : decode cX5_clear 27 = .ok (.putfield 32, 3) := by decide +kernel
theorem dX5_clear_30 : decode cX5_clear 30 = .ok (.return_, 1) := by decide +kernel
theorem dX5_setLatestLoad_0 : decode cX5_setLatestLoad 0 = .ok (.iload_n 1, 1) := by decide +kernel
theorem dX5_setLatestLoad_1 : decode cX5_setLatestLoad 1 = .ok (.ifCond .lt 19, 3) := by decide +kernel
theorem dX5_setLatestLoad_4 : decode cX5_setLatestLoad 4 = .ok (.iload_n 1, 1) := by decide +kernel
theorem dX5_setLatestLoad_5 : decode cX5_setLatestLoad 5 = .ok (.aload_n 0, 1) := by decide +kernel
theorem dX5_setLatestLoad_6 : decode cX5_setLatestLoad 6 = .ok (.getfield 9, 3) := by decide +kernel
theorem dX5_setLatestLoad_9 : decode cX5_setLatestLoad 9 = .ok (.arraylength, 1) := by decide +kernel
theorem dX5_setLatestLoad_10 : decode cX5_setLatestLoad 10 = .ok (.if_icmp .ge 10, 3) := by decide +kernel
theorem dX5_setLatestLoad_13 : decode cX5_setLatestLoad 13 = .ok (.aload_n 0, 1) := by decide +kernel
theorem dX5_setLatestLoad_14 : decode cX5_setLatestLoad 14 = .ok (.getfield 9, 3) := by decide +kernel
theorem dX5_setLatestLoad_17 : decode cX5_setLatestLoad 17 = .ok (.iload_n 1, 1) := by decide +kernel
theorem dX5_setLatestLoad_18 : decode cX5_setLatestLoad 18 = .ok (.iload_n 2, 1) := by decide +kernel
theorem dX5_setLatestLoad_19 : decode cX5_setLatestLoad 19 = .ok (.iastore, 1) := by decide +kernel
theorem dX5_setLatestLoad_20 : decode cX5_setLatestLoad 20 = .ok (.return_, 1) := by decide +kernel
theorem dX5_latestLoadOf_0 : decode cX5_latestLoadOf 0 = .ok (.aload_n 0, 1) := by decide +kernel
theorem dX5_latestLoadOf_1 : decode cX5_latestLoadOf 1 = .ok (.getfield 15, 3) := by decide +kernel
theorem dX5_latestLoadOf_4 : decode cX5_latestLoadOf 4 = .ok (.ifCond .le 20, 3) := by decide +kernel
theorem dX5_latestLoadOf_7 : decode cX5_latestLoadOf 7 = .ok (.iload_n 1, 1) := by decide +kernel
theorem dX5_latestLoadOf_8 : decode cX5_latestLoadOf 8 = .ok (.ifCond .lt 16, 3) := by decide +kernel
theorem dX5_latestLoadOf_11 : decode cX5_latestLoadOf 11 = .ok (.iload_n 1, 1) := by decide +kernel
theorem dX5_latestLoadOf_12 : decode cX5_latestLoadOf 12 = .ok (.aload_n 0, 1) := by decide +kernel
theorem dX5_latestLoadOf_13 : decode cX5_latestLoadOf 13 = .ok (.getfield 9, 3) := by decide +kernel
theorem dX5_latestLoadOf_16 : decode cX5_latestLoadOf 16 = .ok (.arraylength, 1) := by decide +kernel
theorem dX5_latestLoadOf_17 : decode cX5_latestLoadOf 17 = .ok (.if_icmp .ge 7, 3) := by decide +kernel
theorem dX5_latestLoadOf_20 : decode cX5_latestLoadOf 20 = .ok (.iconst 1, 1) := by decide +kernel
theorem dX5_latestLoadOf_21 : decode cX5_latestLoadOf 21 = .ok (.goto 4, 3) := by decide +kernel
theorem dX5_latestLoadOf_24 : decode cX5_latestLoadOf 24 = .ok (.iconst 0, 1) := by decide +kernel
theorem dX5_latestLoadOf_25 : decode cX5_latestLoadOf 25 = .ok (.istore_n 2, 1) := by decide +kernel
theorem dX5_latestLoadOf_26 : decode cX5_latestLoadOf 26 = .ok (.iload_n 2, 1) := by decide +kernel
theorem dX5_latestLoadOf_27 : decode cX5_latestLoadOf 27 = .ok (.ifCond .eq 12, 3) := by decide +kernel
theorem dX5_latestLoadOf_30 : decode cX5_latestLoadOf 30 = .ok (.aload_n 0, 1) := by decide +kernel
theorem dX5_latestLoadOf_31 : decode cX5_latestLoadOf 31 = .ok (.getfield 9, 3) := by decide +kernel
theorem dX5_latestLoadOf_34 : decode cX5_latestLoadOf 34 = .ok (.iload_n 1, 1) := by decide +kernel
theorem dX5_latestLoadOf_35 : decode cX5_latestLoadOf 35 = .ok (.iaload, 1) := by decide +kernel
theorem dX5_latestLoadOf_36 : decode cX5_latestLoadOf 36 = .ok (.goto 4, 3) := by decide +kernel
theorem dX5_latestLoadOf_39 : decode cX5_latestLoadOf 39 = .ok (.iconst (-1), 1) := by decide +kernel
theorem dX5_latestLoadOf_40 : decode cX5_latestLoadOf 40 = .ok (.ireturn, 1) := by decide +kernel
theorem dX5_add_0 : decode cX5_add 0 = .ok (.aload_n 0, 1) := by decide +kernel
theorem dX5_add_1 : decode cX5_add 1 = .ok (.dup, 1) := by decide +kernel
theorem dX5_add_2 : decode cX5_add 2 = .ok (.getfield 15, 3) := by decide +kernel
theorem dX5_add_5 : decode cX5_add 5 = .ok (.iconst 1, 1) := by decide +kernel
theorem dX5_add_6 : decode cX5_add 6 = .ok (.iadd, 1) := by decide +kernel
theorem dX5_add_7 : decode cX5_add 7 = .ok (.putfield 15, 3) := by decide +kernel
theorem dX5_add_10 : decode cX5_add 10 = .ok (.iload_n 3, 1) := by decide +kernel
theorem dX5_add_11 : decode cX5_add 11 = .ok (.ifCond .eq 23, 3) := by decide +kernel
theorem dX5_add_14 : decode cX5_add 14 = .ok (.aload_n 0, 1) := by decide +kernel
theorem dX5_add_15 : decode cX5_add 15 = .ok (.dup, 1) := by decide +kernel
theorem dX5_add_16 : decode cX5_add 16 = .ok (.getfield 19, 3) := by decide +kernel
theorem dX5_add_19 : decode cX5_add 19 = .ok (.iconst 1, 1) := by decide +kernel
theorem dX5_add_20 : decode cX5_add 20 = .ok (.iadd, 1) := by decide +kernel
theorem dX5_add_21 : decode cX5_add 21 = .ok (.putfield 19, 3) := by decide +kernel
theorem dX5_add_24 : decode cX5_add 24 = .ok (.aload_n 0, 1) := by decide +kernel
theorem dX5_add_25 : decode cX5_add 25 = .ok (.dup, 1) := by decide +kernel
theorem dX5_add_26 : decode cX5_add 26 = .ok (.getfield 22, 3) := by decide +kernel
theorem dX5_add_29 : decode cX5_add 29 = .ok (.dload_n 1, 1) := by decide +kernel
theorem dX5_add_30 : decode cX5_add 30 = .ok (.dadd, 1) := by decide +kernel
theorem dX5_add_31 : decode cX5_add 31 = .ok (.putfield 22, 3) := by decide +kernel
theorem dX5_add_34 : decode cX5_add 34 = .ok (.aload_n 0, 1) := by decide +kernel
theorem dX5_add_35 : decode cX5_add 35 = .ok (.dup, 1) := by decide +kernel
theorem dX5_add_36 : decode cX5_add 36 = .ok (.getfield 26, 3) := by decide +kernel
theorem dX5_add_39 : decode cX5_add 39 = .ok (.dload_n 1, 1) := by decide +kernel
theorem dX5_add_40 : decode cX5_add 40 = .ok (.dadd, 1) := by decide +kernel
theorem dX5_add_41 : decode cX5_add 41 = .ok (.putfield 26, 3) := by decide +kernel
theorem dX5_add_44 : decode cX5_add 44 = .ok (.aload_n 0, 1) := by decide +kernel
theorem dX5_add_45 : decode cX5_add 45 = .ok (.dup, 1) := by decide +kernel
theorem dX5_add_46 : decode cX5_add 46 = .ok (.getfield 29, 3) := by decide +kernel
theorem dX5_add_49 : decode cX5_add 49 = .ok (.dload_n 1, 1) := by decide +kernel
theorem dX5_add_50 : decode cX5_add 50 = .ok (.dload_n 1, 1) := by decide +kernel
theorem dX5_add_51 : decode cX5_add 51 = .ok (.dmul, 1) := by decide +kernel
theorem dX5_add_52 : decode cX5_add 52 = .ok (.dadd, 1) := by decide +kernel
theorem dX5_add_53 : decode cX5_add 53 = .ok (.putfield 29, 3) := by decide +kernel
theorem dX5_add_56 : decode cX5_add 56 = .ok (.aload_n 0, 1) := by decide +kernel
theorem dX5_add_57 : decode cX5_add 57 = .ok (.dload_n 1, 1) := by decide +kernel
theorem dX5_add_58 : decode cX5_add 58 = .ok (.putfield 32, 3) := by decide +kernel
theorem dX5_add_61 : decode cX5_add 61 = .ok (.return_, 1) := by decide +kernel
theorem dX5_shareOf_0 : decode cX5_shareOf 0 = .ok (.aload_n 0, 1) := by decide +kernel
theorem dX5_shareOf_1 : decode cX5_shareOf 1 = .ok (.getfield 15, 3) := by decide +kernel
theorem dX5_shareOf_4 : decode cX5_shareOf 4 = .ok (.ifCond .le 13, 3) := by decide +kernel
theorem dX5_shareOf_7 : decode cX5_shareOf 7 = .ok (.dload_n 1, 1) := by decide +kernel
theorem dX5_shareOf_8 : decode cX5_shareOf 8 = .ok (.aload_n 0, 1) := by decide +kernel
theorem dX5_shareOf_9 : decode cX5_shareOf 9 = .ok (.getfield 15, 3) := by decide +kernel
theorem dX5_shareOf_12 : decode cX5_shareOf 12 = .ok (.i2d, 1) := by decide +kernel
theorem dX5_shareOf_13 : decode cX5_shareOf 13 = .ok (.ddiv, 1) := by decide +kernel
theorem dX5_shareOf_14 : decode cX5_shareOf 14 = .ok (.goto 4, 3) := by decide +kernel
theorem dX5_shareOf_17 : decode cX5_shareOf 17 = .ok (.dconst 0, 1) := by decide +kernel
theorem dX5_shareOf_18 : decode cX5_shareOf 18 = .ok (.dreturn, 1) := by decide +kernel
theorem dX5_effectiveNumber_0 : decode cX5_effectiveNumber 0 = .ok (.aload_n 0, 1) := by decide +kernel
theorem dX5_effectiveNumber_1 : decode cX5_effectiveNumber 1 = .ok (.getfield 29, 3) := by decide +kernel
theorem dX5_effectiveNumber_4 : decode cX5_effectiveNumber 4 = .ok (.dconst 0, 1) := by decide +kernel
theorem dX5_effectiveNumber_5 : decode cX5_effectiveNumber 5 = .ok (.dcmp .l, 1) := by decide +kernel
theorem dX5_effectiveNumber_6 : decode cX5_effectiveNumber 6 = .ok (.ifCond .le 20, 3) := by decide +kernel
theorem dX5_effectiveNumber_9 : decode cX5_effectiveNumber 9 = .ok (.aload_n 0, 1) := by decide +kernel
theorem dX5_effectiveNumber_10 : decode cX5_effectiveNumber 10 = .ok (.getfield 26, 3) := by decide +kernel
theorem dX5_effectiveNumber_13 : decode cX5_effectiveNumber 13 = .ok (.aload_n 0, 1) := by decide +kernel
theorem dX5_effectiveNumber_14 : decode cX5_effectiveNumber 14 = .ok (.getfield 26, 3) := by decide +kernel
theorem dX5_effectiveNumber_17 : decode cX5_effectiveNumber 17 = .ok (.dmul, 1) := by decide +kernel
theorem dX5_effectiveNumber_18 : decode cX5_effectiveNumber 18 = .ok (.aload_n 0, 1) := by decide +kernel
theorem dX5_effectiveNumber_19 : decode cX5_effectiveNumber 19 = .ok (.getfield 29, 3) := by decide +kernel
theorem dX5_effectiveNumber_22 : decode cX5_effectiveNumber 22 = .ok (.ddiv, 1) := by decide +kernel
theorem dX5_effectiveNumber_23 : decode cX5_effectiveNumber 23 = .ok (.goto 4, 3) := by decide +kernel
theorem dX5_effectiveNumber_26 : decode cX5_effectiveNumber 26 = .ok (.dconst 0, 1) := by decide +kernel
theorem dX5_effectiveNumber_27 : decode cX5_effectiveNumber 27 = .ok (.dreturn, 1) := by decide +kernel
theorem dX5_copyFrom_0 : decode cX5_copyFrom 0 = .ok (.iconst 0, 1) := by decide +kernel
theorem dX5_copyFrom_1 : decode cX5_copyFrom 1 = .ok (.istore_n 2, 1) := by decide +kernel
theorem dX5_copyFrom_2 : decode cX5_copyFrom 2 = .ok (.iload_n 2, 1) := by decide +kernel
theorem dX5_copyFrom_3 : decode cX5_copyFrom 3 = .ok (.aload_n 0, 1) := by decide +kernel
theorem dX5_copyFrom_4 : decode cX5_copyFrom 4 = .ok (.getfield 9, 3) := by decide +kernel
theorem dX5_copyFrom_7 : decode cX5_copyFrom 7 = .ok (.arraylength, 1) := by decide +kernel
theorem dX5_copyFrom_8 : decode cX5_copyFrom 8 = .ok (.if_icmp .ge 34, 3) := by decide +kernel
theorem dX5_copyFrom_11 : decode cX5_copyFrom 11 = .ok (.aload_n 0, 1) := by decide +kernel
theorem dX5_copyFrom_12 : decode cX5_copyFrom 12 = .ok (.getfield 9, 3) := by decide +kernel
theorem dX5_copyFrom_15 : decode cX5_copyFrom 15 = .ok (.iload_n 2, 1) := by decide +kernel
theorem dX5_copyFrom_16 : decode cX5_copyFrom 16 = .ok (.iload_n 2, 1) := by decide +kernel
theorem dX5_copyFrom_17 : decode cX5_copyFrom 17 = .ok (.aload_n 1, 1) := by decide +kernel
theorem dX5_copyFrom_18 : decode cX5_copyFrom 18 = .ok (.getfield 9, 3) := by decide +kernel
theorem dX5_copyFrom_21 : decode cX5_copyFrom 21 = .ok (.arraylength, 1) := by decide +kernel
theorem dX5_copyFrom_22 : decode cX5_copyFrom 22 = .ok (.if_icmp .ge 12, 3) := by decide +kernel
theorem dX5_copyFrom_25 : decode cX5_copyFrom 25 = .ok (.aload_n 1, 1) := by decide +kernel
theorem dX5_copyFrom_26 : decode cX5_copyFrom 26 = .ok (.getfield 9, 3) := by decide +kernel
theorem dX5_copyFrom_29 : decode cX5_copyFrom 29 = .ok (.iload_n 2, 1) := by decide +kernel
theorem dX5_copyFrom_30 : decode cX5_copyFrom 30 = .ok (.iaload, 1) := by decide +kernel
theorem dX5_copyFrom_31 : decode cX5_copyFrom 31 = .ok (.goto 4, 3) := by decide +kernel
theorem dX5_copyFrom_34 : decode cX5_copyFrom 34 = .ok (.iconst 0, 1) := by decide +kernel
theorem dX5_copyFrom_35 : decode cX5_copyFrom 35 = .ok (.iastore, 1) := by decide +kernel
theorem dX5_copyFrom_36 : decode cX5_copyFrom 36 = .ok (.iinc 2 1, 3) := by decide +kernel
theorem dX5_copyFrom_39 : decode cX5_copyFrom 39 = .ok (.goto (-37), 3) := by decide +kernel
theorem dX5_copyFrom_42 : decode cX5_copyFrom 42 = .ok (.aload_n 0, 1) := by decide +kernel
theorem dX5_copyFrom_43 : decode cX5_copyFrom 43 = .ok (.aload_n 1, 1) := by decide +kernel
theorem dX5_copyFrom_44 : decode cX5_copyFrom 44 = .ok (.getfield 15, 3) := by decide +kernel
theorem dX5_copyFrom_47 : decode cX5_copyFrom 47 = .ok (.putfield 15, 3) := by decide +kernel
theorem dX5_copyFrom_50 : decode cX5_copyFrom 50 = .ok (.aload_n 0, 1) := by decide +kernel
theorem dX5_copyFrom_51 : decode cX5_copyFrom 51 = .ok (.aload_n 1, 1) := by decide +kernel
theorem dX5_copyFrom_52 : decode cX5_copyFrom 52 = .ok (.getfield 19, 3) := by decide +kernel
theorem dX5_copyFrom_55 : decode cX5_copyFrom 55 = .ok (.putfield 19, 3) := by decide +kernel
theorem dX5_copyFrom_58 : decode cX5_copyFrom 58 = .ok (.aload_n 0, 1) := by decide +kernel
theorem dX5_copyFrom_59 : decode cX5_copyFrom 59 = .ok (.aload_n 1, 1) := by decide +kernel
theorem dX5_copyFrom_60 : decode cX5_copyFrom 60 = .ok (.getfield 22, 3) := by decide +kernel
theorem dX5_copyFrom_63 : decode cX5_copyFrom 63 = .ok (.putfield 22, 3) := by decide +kernel
theorem dX5_copyFrom_66 : decode cX5_copyFrom 66 = .ok (.aload_n 0, 1) := by decide +kernel
theorem dX5_copyFrom_67 : decode cX5_copyFrom 67 = .ok (.aload_n 1, 1) := by decide +kernel
theorem dX5_copyFrom_68 : decode cX5_copyFrom 68 = .ok (.getfield 26, 3) := by decide +kernel
theorem dX5_copyFrom_71 : decode cX5_copyFrom 71 = .ok (.putfield 26, 3) := by decide +kernel
theorem dX5_copyFrom_74 : decode cX5_copyFrom 74 = .ok (.aload_n 0, 1) := by decide +kernel
theorem dX5_copyFrom_75 : decode cX5_copyFrom 75 = .ok (.aload_n 1, 1) := by decide +kernel
theorem dX5_copyFrom_76 : decode cX5_copyFrom 76 = .ok (.getfield 29, 3) := by decide +kernel
theorem dX5_copyFrom_79 : decode cX5_copyFrom 79 = .ok (.putfield 29, 3) := by decide +kernel
theorem dX5_copyFrom_82 : decode cX5_copyFrom 82 = .ok (.aload_n 0, 1) := by decide +kernel
theorem dX5_copyFrom_83 : decode cX5_copyFrom 83 = .ok (.aload_n 1, 1) := by decide +kernel
theorem dX5_copyFrom_84 : decode cX5_copyFrom 84 = .ok (.getfield 32, 3) := by decide +kernel
theorem dX5_copyFrom_87 : decode cX5_copyFrom 87 = .ok (.putfield 32, 3) := by decide +kernel
theorem dX5_copyFrom_90 : decode cX5_copyFrom 90 = .ok (.return_, 1) := by decide +kernel
theorem dX6_init_0 : decode cX6_init 0 = .ok (.aload_n 0, 1) := by decide +kernel
theorem dX6_init_1 : decode cX6_init 1 = .ok (.invokespecial 3, 3) := by decide +kernel
theorem dX6_init_4 : decode cX6_init 4 = .ok (.aload_n 0, 1) := by decide +kernel
theorem dX6_init_5 : decode cX6_init 5 = .ok (.iconst 1, 1) := by decide +kernel
theorem dX6_init_6 : decode cX6_init 6 = .ok (.putfield 9, 3) := by decide +kernel
theorem dX6_init_9 : decode cX6_init 9 = .ok (.aload_n 0, 1) := by decide +kernel
theorem dX6_init_10 : decode cX6_init 10 = .ok (.iconst 0, 1) := by decide +kernel
theorem dX6_init_11 : decode cX6_init 11 = .ok (.putfield 15, 3) := by decide +kernel
theorem dX6_init_14 : decode cX6_init 14 = .ok (.aload_n 0, 1) := by decide +kernel
theorem dX6_init_15 : decode cX6_init 15 = .ok (.iconst 0, 1) := by decide +kernel
theorem dX6_init_16 : decode cX6_init 16 = .ok (.putfield 18, 3) := by decide +kernel
theorem dX6_init_19 : decode cX6_init 19 = .ok (.return_, 1) := by decide +kernel
theorem dX6_read_0 : decode cX6_read 0 = .ok (.iconst 0, 1) := by decide +kernel
theorem dX6_read_1 : decode cX6_read 1 = .ok (.istore_n 2, 1) := by decide +kernel
theorem dX6_read_2 : decode cX6_read 2 = .ok (.iload_n 2, 1) := by decide +kernel
theorem dX6_read_3 : decode cX6_read 3 = .ok (.aload_n 1, 1) := by decide +kernel
theorem dX6_read_4 : decode cX6_read 4 = .ok (.getfield 22, 3) := by decide +kernel
theorem dX6_read_7 : decode cX6_read 7 = .ok (.if_icmp .ge 23, 3) := by decide +kernel
theorem dX6_read_10 : decode cX6_read 10 = .ok (.aload_n 0, 1) := by decide +kernel
theorem dX6_read_11 : decode cX6_read 11 = .ok (.aload_n 1, 1) := by decide +kernel
theorem dX6_read_12 : decode cX6_read 12 = .ok (.iload_n 2, 1) := by decide +kernel
theorem dX6_read_13 : decode cX6_read 13 = .ok (.invokevirtual 27, 3) := by decide +kernel
theorem dX6_read_16 : decode cX6_read 16 = .ok (.invokevirtual 31, 3) := by decide +kernel
theorem dX6_read_19 : decode cX6_read 19 = .ok (.ifCond .ne 5, 3) := by decide +kernel
theorem dX6_read_22 : decode cX6_read 22 = .ok (.iload_n 2, 1) := by decide +kernel
theorem dX6_read_23 : decode cX6_read 23 = .ok (.ireturn, 1) := by decide +kernel
theorem dX6_read_24 : decode cX6_read 24 = .ok (.iinc 2 1, 3) := by decide +kernel
theorem dX6_read_27 : decode cX6_read 27 = .ok (.goto (-25), 3) := by decide +kernel
theorem dX6_read_30 : decode cX6_read 30 = .ok (.aload_n 1, 1) := by decide +kernel
theorem dX6_read_31 : decode cX6_read 31 = .ok (.getfield 22, 3) := by decide +kernel
theorem dX6_read_34 : decode cX6_read 34 = .ok (.ireturn, 1) := by decide +kernel
theorem dX6_isPartComplete_0 : decode cX6_isPartComplete 0 = .ok (.aload_n 0, 1) := by decide +kernel
theorem dX6_isPartComplete_1 : decode cX6_isPartComplete 1 = .ok (.getfield 18, 3) := by decide +kernel
theorem dX6_isPartComplete_4 : decode cX6_isPartComplete 4 = .ok (.ireturn, 1) := by decide +kernel
theorem dX6_accepts_0 : decode cX6_accepts 0 = .ok (.iload_n 1, 1) := by decide +kernel
theorem dX6_accepts_1 : decode cX6_accepts 1 = .ok (.bipush 59, 2) := by decide +kernel
theorem dX6_accepts_3 : decode cX6_accepts 3 = .ok (.if_icmp .ne 8, 3) := by decide +kernel
theorem dX6_accepts_6 : decode cX6_accepts 6 = .ok (.aload_n 0, 1) := by decide +kernel
theorem dX6_accepts_7 : decode cX6_accepts 7 = .ok (.invokevirtual 35, 3) := by decide +kernel
theorem dX6_accepts_10 : decode cX6_accepts 10 = .ok (.ireturn, 1) := by decide +kernel
theorem dX6_accepts_11 : decode cX6_accepts 11 = .ok (.iload_n 1, 1) := by decide +kernel
theorem dX6_accepts_12 : decode cX6_accepts 12 = .ok (.bipush 48, 2) := by decide +kernel
theorem dX6_accepts_14 : decode cX6_accepts 14 = .ok (.if_icmp .lt 24, 3) := by decide +kernel
theorem dX6_accepts_17 : decode cX6_accepts 17 = .ok (.iload_n 1, 1) := by decide +kernel
theorem dX6_accepts_18 : decode cX6_accepts 18 = .ok (.bipush 57, 2) := by decide +kernel
theorem dX6_accepts_20 : decode cX6_accepts 20 = .ok (.if_icmp .gt 18, 3) := by decide +kernel
theorem dX6_accepts_23 : decode cX6_accepts 23 = .ok (.aload_n 0, 1) := by decide +kernel
theorem dX6_accepts_24 : decode cX6_accepts 24 = .ok (.iload_n 1, 1) := by decide +kernel
theorem dX6_accepts_25 : decode cX6_accepts 25 = .ok (.bipush 48, 2) := by decide +kernel
theorem dX6_accepts_27 : decode cX6_accepts 27 = .ok (.isub, 1) := by decide +kernel
theorem dX6_accepts_28 : decode cX6_accepts 28 = .ok (.invokevirtual 39, 3) := by decide +kernel
theorem dX6_accepts_31 : decode cX6_accepts 31 = .ok (.ifCond .eq 7, 3) := by decide +kernel
theorem dX6_accepts_34 : decode cX6_accepts 34 = .ok (.iconst 1, 1) := by decide +kernel
theorem dX6_accepts_35 : decode cX6_accepts 35 = .ok (.goto 4, 3) := by decide +kernel
theorem dX6_accepts_38 : decode cX6_accepts 38 = .ok (.iconst 0, 1) := by decide +kernel
theorem dX6_accepts_39 : decode cX6_accepts 39 = .ok (.ireturn, 1) := by decide +kernel
theorem dX6_acceptsNextPart_0 : decode cX6_acceptsNextPart 0 = .ok (.aload_n 0, 1) := by decide +kernel
theorem dX6_acceptsNextPart_1 : decode cX6_acceptsNextPart 1 = .ok (.getfield 18, 3) := by decide +kernel
theorem dX6_acceptsNextPart_4 : decode cX6_acceptsNextPart 4 = .ok (.istore_n 1, 1) := by decide +kernel
theorem dX6_acceptsNextPart_5 : decode cX6_acceptsNextPart 5 = .ok (.aload_n 0, 1) := by decide +kernel
theorem dX6_acceptsNextPart_6 : decode cX6_acceptsNextPart 6 = .ok (.dup, 1) := by decide +kernel
theorem dX6_acceptsNextPart_7 : decode cX6_acceptsNextPart 7 = .ok (.getfield 9, 3) := by decide +kernel
theorem dX6_acceptsNextPart_10 : decode cX6_acceptsNextPart 10 = .ok (.iconst 1, 1) := by decide +kernel
theorem dX6_acceptsNextPart_11 : decode cX6_acceptsNextPart 11 = .ok (.iadd, 1) := by decide +kernel
theorem dX6_acceptsNextPart_12 : decode cX6_acceptsNextPart 12 = .ok (.putfield 9, 3) := by decide +kernel
theorem dX6_acceptsNextPart_15 : decode cX6_acceptsNextPart 15 = .ok (.aload_n 0, 1) := by decide +kernel
theorem dX6_acceptsNextPart_16 : decode cX6_acceptsNextPart 16 = .ok (.iconst 0, 1) := by decide +kernel
theorem dX6_acceptsNextPart_17 : decode cX6_acceptsNextPart 17 = .ok (.putfield 15, 3) := by decide +kernel
theorem dX6_acceptsNextPart_20 : decode cX6_acceptsNextPart 20 = .ok (.aload_n 0, 1) := by decide +kernel
theorem dX6_acceptsNextPart_21 : decode cX6_acceptsNextPart 21 = .ok (.iconst 0, 1) := by decide +kernel
theorem dX6_acceptsNextPart_22 : decode cX6_acceptsNextPart 22 = .ok (.putfield 18, 3) := by decide +kernel
theorem dX6_acceptsNextPart_25 : decode cX6_acceptsNextPart 25 = .ok (.iload_n 1, 1) := by decide +kernel
theorem dX6_acceptsNextPart_26 : decode cX6_acceptsNextPart 26 = .ok (.ireturn, 1) := by decide +kernel
theorem dX6_acceptsDigit_0 : decode cX6_acceptsDigit 0 = .ok (.aload_n 0, 1) := by decide +kernel
theorem dX6_acceptsDigit_1 : decode cX6_acceptsDigit 1 = .ok (.dup, 1) := by decide +kernel
theorem dX6_acceptsDigit_2 : decode cX6_acceptsDigit 2 = .ok (.getfield 15, 3) := by decide +kernel
theorem dX6_acceptsDigit_5 : decode cX6_acceptsDigit 5 = .ok (.iconst 1, 1) := by decide +kernel
theorem dX6_acceptsDigit_6 : decode cX6_acceptsDigit 6 = .ok (.iadd, 1) := by decide +kernel
theorem dX6_acceptsDigit_7 : decode cX6_acceptsDigit 7 = .ok (.putfield 15, 3) := by decide +kernel
theorem dX6_acceptsDigit_10 : decode cX6_acceptsDigit 10 = .ok (.aload_n 0, 1) := by decide +kernel
theorem dX6_acceptsDigit_11 : decode cX6_acceptsDigit 11 = .ok (.aload_n 0, 1) := by decide +kernel
theorem dX6_acceptsDigit_12 : decode cX6_acceptsDigit 12 = .ok (.getfield 18, 3) := by decide +kernel
theorem dX6_acceptsDigit_15 : decode cX6_acceptsDigit 15 = .ok (.ifCond .ne 7, 3) := by decide +kernel
theorem dX6_acceptsDigit_18 : decode cX6_acceptsDigit 18 = .ok (.iload_n 1, 1) := by decide +kernel
theorem dX6_acceptsDigit_19 : decode cX6_acceptsDigit 19 = .ok (.ifCond .le 7, 3) := by decide +kernel
theorem dX6_acceptsDigit_22 : decode cX6_acceptsDigit 22 = .ok (.iconst 1, 1) := by decide +kernel
theorem dX6_acceptsDigit_23 : decode cX6_acceptsDigit 23 = .ok (.goto 4, 3) := by decide +kernel
theorem dX6_acceptsDigit_26 : decode cX6_acceptsDigit 26 = .ok (.iconst 0, 1) := by decide +kernel
theorem dX6_acceptsDigit_27 : decode cX6_acceptsDigit 27 = .ok (.putfield 18, 3) := by decide +kernel
theorem dX6_acceptsDigit_30 : decode cX6_acceptsDigit 30 = .ok (.aload_n 0, 1) := by decide +kernel
theorem dX6_acceptsDigit_31 : decode cX6_acceptsDigit 31 = .ok (.getfield 15, 3) := by decide +kernel
theorem dX6_acceptsDigit_34 : decode cX6_acceptsDigit 34 = .ok (.bipush 6, 2) := by decide +kernel
theorem dX6_acceptsDigit_36 : decode cX6_acceptsDigit 36 = .ok (.if_icmp .lt 19, 3) := by decide +kernel
theorem dX6_acceptsDigit_39 : decode cX6_acceptsDigit 39 = .ok (.aload_n 0, 1) := by decide +kernel
theorem dX6_acceptsDigit_40 : decode cX6_acceptsDigit 40 = .ok (.getfield 15, 3) := by decide +kernel
theorem dX6_acceptsDigit_43 : decode cX6_acceptsDigit 43 = .ok (.bipush 6, 2) := by decide +kernel
theorem dX6_acceptsDigit_45 : decode cX6_acceptsDigit 45 = .ok (.if_icmp .ne 14, 3) := by decide +kernel
theorem dX6_acceptsDigit_48 : decode cX6_acceptsDigit 48 = .ok (.aload_n 0, 1) := by decide +kernel
theorem dX6_acceptsDigit_49 : decode cX6_acceptsDigit 49 = .ok (.getfield 18, 3) := by decide +kernel
theorem dX6_acceptsDigit_52 : decode cX6_acceptsDigit 52 = .ok (.ifCond .eq 7, 3) := by decide +kernel
theorem dX6_acceptsDigit_55 : decode cX6_acceptsDigit 55 = .ok (.iconst 1, 1) := by decide +kernel
theorem dX6_acceptsDigit_56 : decode cX6_acceptsDigit 56 = .ok (.goto 4, 3) := by decide +kernel
theorem dX6_acceptsDigit_59 : decode cX6_acceptsDigit 59 = .ok (.iconst 0, 1) := by decide +kernel
theorem dX6_acceptsDigit_60 : decode cX6_acceptsDigit 60 = .ok (.ireturn, 1) := by decide +kernel
theorem dX7_init_0 : decode cX7_init 0 = .ok (.aload_n 0, 1) := by decide +kernel
theorem dX7_init_1 : decode cX7_init 1 = .ok (.invokespecial 3, 3) := by decide +kernel
theorem dX7_init_4 : decode cX7_init 4 = .ok (.aload_n 0, 1) := by decide +kernel
theorem dX7_init_5 : decode cX7_init 5 = .ok (.bipush 36, 2) := by decide +kernel
theorem dX7_init_7 : decode cX7_init 7 = .ok (.newarray .int, 2) := by decide +kernel
theorem dX7_init_9 : decode cX7_init 9 = .ok (.putfield 9, 3) := by decide +kernel
theorem dX7_init_12 : decode cX7_init 12 = .ok (.return_, 1) := by decide +kernel
theorem dX7_get_0 : decode cX7_get 0 = .ok (.iload_n 1, 1) := by decide +kernel
theorem dX7_get_1 : decode cX7_get 1 = .ok (.ifCond .lt 23, 3) := by decide +kernel
theorem dX7_get_4 : decode cX7_get 4 = .ok (.iload_n 1, 1) := by decide +kernel
theorem dX7_get_5 : decode cX7_get 5 = .ok (.bipush 6, 2) := by decide +kernel
theorem dX7_get_7 : decode cX7_get 7 = .ok (.if_icmp .ge 17, 3) := by decide +kernel
theorem dX7_get_10 : decode cX7_get 10 = .ok (.iload_n 2, 1) := by decide +kernel
theorem dX7_get_11 : decode cX7_get 11 = .ok (.ifCond .lt 13, 3) := by decide +kernel
theorem dX7_get_14 : decode cX7_get 14 = .ok (.iload_n 2, 1) := by decide +kernel
theorem dX7_get_15 : decode cX7_get 15 = .ok (.bipush 6, 2) := by decide +kernel
theorem dX7_get_17 : decode cX7_get 17 = .ok (.if_icmp .ge 7, 3) := by decide +kernel
theorem dX7_get_20 : decode cX7_get 20 = .ok (.iconst 1, 1) := by decide +kernel
theorem dX7_get_21 : decode cX7_get 21 = .ok (.goto 4, 3) := by decide +kernel
theorem dX7_get_24 : decode cX7_get 24 = .ok (.iconst 0, 1) := by decide +kernel
theorem dX7_get_25 : decode cX7_get 25 = .ok (.istore_n 3, 1) := by decide +kernel
theorem dX7_get_26 : decode cX7_get 26 = .ok (.iload_n 3, 1) := by decide +kernel
theorem dX7_get_27 : decode cX7_get 27 = .ok (.ifCond .eq 17, 3) := by decide +kernel
theorem dX7_get_30 : decode cX7_get 30 = .ok (.aload_n 0, 1) := by decide +kernel
theorem dX7_get_31 : decode cX7_get 31 = .ok (.getfield 9, 3) := by decide +kernel
theorem dX7_get_34 : decode cX7_get 34 = .ok (.iload_n 1, 1) := by decide +kernel
theorem dX7_get_35 : decode cX7_get 35 = .ok (.bipush 6, 2) := by decide +kernel
theorem dX7_get_37 : decode cX7_get 37 = .ok (.imul, 1) := by decide +kernel
theorem dX7_get_38 : decode cX7_get 38 = .ok (.iload_n 2, 1) := by decide +kernel
theorem dX7_get_39 : decode cX7_get 39 = .ok (.iadd, 1) := by decide +kernel
theorem dX7_get_40 : decode cX7_get 40 = .ok (.iaload, 1) := by decide +kernel
theorem dX7_get_41 : decode cX7_get 41 = .ok (.goto 4, 3) := by decide +kernel
theorem dX7_get_44 : decode cX7_get 44 = .ok (.iconst 0, 1) := by decide +kernel
theorem dX7_get_45 : decode cX7_get 45 = .ok (.ireturn, 1) := by decide +kernel
theorem dX7_set_0 : decode cX7_set 0 = .ok (.iload_n 1, 1) := by decide +kernel
theorem dX7_set_1 : decode cX7_set 1 = .ok (.ifCond .lt 31, 3) := by decide +kernel
theorem dX7_set_4 : decode cX7_set 4 = .ok (.iload_n 1, 1) := by decide +kernel
theorem dX7_set_5 : decode cX7_set 5 = .ok (.bipush 6, 2) := by decide +kernel
theorem dX7_set_7 : decode cX7_set 7 = .ok (.if_icmp .ge 25, 3) := by decide +kernel
theorem dX7_set_10 : decode cX7_set 10 = .ok (.iload_n 2, 1) := by decide +kernel
theorem dX7_set_11 : decode cX7_set 11 = .ok (.ifCond .lt 21, 3) := by decide +kernel
theorem dX7_set_14 : decode cX7_set 14 = .ok (.iload_n 2, 1) := by decide +kernel
theorem dX7_set_15 : decode cX7_set 15 = .ok (.bipush 6, 2) := by decide +kernel
theorem dX7_set_17 : decode cX7_set 17 = .ok (.if_icmp .ge 15, 3) := by decide +kernel
theorem dX7_set_20 : decode cX7_set 20 = .ok (.aload_n 0, 1) := by decide +kernel
theorem dX7_set_21 : decode cX7_set 21 = .ok (.getfield 9, 3) := by decide +kernel
theorem dX7_set_24 : decode cX7_set 24 = .ok (.iload_n 1, 1) := by decide +kernel
theorem dX7_set_25 : decode cX7_set 25 = .ok (.bipush 6, 2) := by decide +kernel
theorem dX7_set_27 : decode cX7_set 27 = .ok (.imul, 1) := by decide +kernel
theorem dX7_set_28 : decode cX7_set 28 = .ok (.iload_n 2, 1) := by decide +kernel
theorem dX7_set_29 : decode cX7_set 29 = .ok (.iadd, 1) := by decide +kernel
theorem dX7_set_30 : decode cX7_set 30 = .ok (.iload_n 3, 1) := by decide +kernel
theorem dX7_set_31 : decode cX7_set 31 = .ok (.iastore, 1) := by decide +kernel
theorem dX7_set_32 : decode cX7_set 32 = .ok (.return_, 1) := by decide +kernel
theorem dX7_totalOf_0 : decode cX7_totalOf 0 = .ok (.iconst 0, 1) := by decide +kernel
theorem dX7_totalOf_1 : decode cX7_totalOf 1 = .ok (.istore_n 2, 1) := by decide +kernel
theorem dX7_totalOf_2 : decode cX7_totalOf 2 = .ok (.iconst 0, 1) := by decide +kernel
theorem dX7_totalOf_3 : decode cX7_totalOf 3 = .ok (.istore_n 3, 1) := by decide +kernel
theorem dX7_totalOf_4 : decode cX7_totalOf 4 = .ok (.iload_n 3, 1) := by decide +kernel
theorem dX7_totalOf_5 : decode cX7_totalOf 5 = .ok (.bipush 6, 2) := by decide +kernel
theorem dX7_totalOf_7 : decode cX7_totalOf 7 = .ok (.if_icmp .ge 18, 3) := by decide +kernel
theorem dX7_totalOf_10 : decode cX7_totalOf 10 = .ok (.iload_n 2, 1) := by decide +kernel
theorem dX7_totalOf_11 : decode cX7_totalOf 11 = .ok (.aload_n 0, 1) := by decide +kernel
theorem dX7_totalOf_12 : decode cX7_totalOf 12 = .ok (.iload_n 1, 1) := by decide +kernel
theorem dX7_totalOf_13 : decode cX7_totalOf 13 = .ok (.iload_n 3, 1) := by decide +kernel
theorem dX7_totalOf_14 : decode cX7_totalOf 14 = .ok (.invokevirtual 15, 3) := by decide +kernel
theorem dX7_totalOf_17 : decode cX7_totalOf 17 = .ok (.iadd, 1) := by decide +kernel
theorem dX7_totalOf_18 : decode cX7_totalOf 18 = .ok (.istore_n 2, 1) := by decide +kernel
theorem dX7_totalOf_19 : decode cX7_totalOf 19 = .ok (.iinc 3 1, 3) := by decide +kernel
theorem dX7_totalOf_22 : decode cX7_totalOf 22 = .ok (.goto (-18), 3) := by decide +kernel
theorem dX7_totalOf_25 : decode cX7_totalOf 25 = .ok (.iload_n 2, 1) := by decide +kernel
theorem dX7_totalOf_26 : decode cX7_totalOf 26 = .ok (.ireturn, 1) := by decide +kernel
theorem dX7_momentOf_0 : decode cX7_momentOf 0 = .ok (.iconst 0, 1) := by decide +kernel
theorem dX7_momentOf_1 : decode cX7_momentOf 1 = .ok (.istore_n 2, 1) := by decide +kernel
theorem dX7_momentOf_2 : decode cX7_momentOf 2 = .ok (.iconst 0, 1) := by decide +kernel
theorem dX7_momentOf_3 : decode cX7_momentOf 3 = .ok (.istore_n 3, 1) := by decide +kernel
theorem dX7_momentOf_4 : decode cX7_momentOf 4 = .ok (.iload_n 3, 1) := by decide +kernel
theorem dX7_momentOf_5 : decode cX7_momentOf 5 = .ok (.bipush 6, 2) := by decide +kernel
theorem dX7_momentOf_7 : decode cX7_momentOf 7 = .ok (.if_icmp .ge 20, 3) := by decide +kernel
theorem dX7_momentOf_10 : decode cX7_momentOf 10 = .ok (.iload_n 2, 1) := by decide +kernel
theorem dX7_momentOf_11 : decode cX7_momentOf 11 = .ok (.iload_n 3, 1) := by decide +kernel
theorem dX7_momentOf_12 : decode cX7_momentOf 12 = .ok (.aload_n 0, 1) := by decide +kernel
theorem dX7_momentOf_13 : decode cX7_momentOf 13 = .ok (.iload_n 1, 1) := by decide +kernel
theorem dX7_momentOf_14 : decode cX7_momentOf 14 = .ok (.iload_n 3, 1) := by decide +kernel
theorem dX7_momentOf_15 : decode cX7_momentOf 15 = .ok (.invokevirtual 15, 3) := by decide +kernel
theorem dX7_momentOf_18 : decode cX7_momentOf 18 = .ok (.imul, 1) := by decide +kernel
theorem dX7_momentOf_19 : decode cX7_momentOf 19 = .ok (.iadd, 1) := by decide +kernel
theorem dX7_momentOf_20 : decode cX7_momentOf 20 = .ok (.istore_n 2, 1) := by decide +kernel
theorem dX7_momentOf_21 : decode cX7_momentOf 21 = .ok (.iinc 3 1, 3) := by decide +kernel
theorem dX7_momentOf_24 : decode cX7_momentOf 24 = .ok (.goto (-20), 3) := by decide +kernel
theorem dX7_momentOf_27 : decode cX7_momentOf 27 = .ok (.iload_n 2, 1) := by decide +kernel
theorem dX7_momentOf_28 : decode cX7_momentOf 28 = .ok (.ireturn, 1) := by decide +kernel
theorem dX7_leastLoadOf_0 : decode cX7_leastLoadOf 0 = .ok (.iconst 0, 1) := by decide +kernel
theorem dX7_leastLoadOf_1 : decode cX7_leastLoadOf 1 = .ok (.istore_n 2, 1) := by decide +kernel
theorem dX7_leastLoadOf_2 : decode cX7_leastLoadOf 2 = .ok (.iload_n 2, 1) := by decide +kernel
theorem dX7_leastLoadOf_3 : decode cX7_leastLoadOf 3 = .ok (.bipush 6, 2) := by decide +kernel
theorem dX7_leastLoadOf_5 : decode cX7_leastLoadOf 5 = .ok (.if_icmp .ge 20, 3) := by decide +kernel
theorem dX7_leastLoadOf_8 : decode cX7_leastLoadOf 8 = .ok (.aload_n 0, 1) := by decide +kernel
theorem dX7_leastLoadOf_9 : decode cX7_leastLoadOf 9 = .ok (.iload_n 1, 1) := by decide +kernel
theorem dX7_leastLoadOf_10 : decode cX7_leastLoadOf 10 = .ok (.iload_n 2, 1) := by decide +kernel
theorem dX7_leastLoadOf_11 : decode cX7_leastLoadOf 11 = .ok (.invokevirtual 15, 3) := by decide +kernel
theorem dX7_leastLoadOf_14 : decode cX7_leastLoadOf 14 = .ok (.ifCond .le 5, 3) := by decide +kernel
theorem dX7_leastLoadOf_17 : decode cX7_leastLoadOf 17 = .ok (.iload_n 2, 1) := by decide +kernel
theorem dX7_leastLoadOf_18 : decode cX7_leastLoadOf 18 = .ok (.ireturn, 1) := by decide +kernel
theorem dX7_leastLoadOf_19 : decode cX7_leastLoadOf 19 = .ok (.iinc 2 1, 3) := by decide +kernel
theorem dX7_leastLoadOf_22 : decode cX7_leastLoadOf 22 = .ok (.goto (-20), 3) := by decide +kernel
theorem dX7_leastLoadOf_25 : decode cX7_leastLoadOf 25 = .ok (.iconst (-1), 1) := by decide +kernel
theorem dX7_leastLoadOf_26 : decode cX7_leastLoadOf 26 = .ok (.ireturn, 1) := by decide +kernel
theorem dX7_greatestLoadOf_0 : decode cX7_greatestLoadOf 0 = .ok (.iconst 5, 1) := by decide +kernel
theorem dX7_greatestLoadOf_1 : decode cX7_greatestLoadOf 1 = .ok (.istore_n 2, 1) := by decide +kernel
theorem dX7_greatestLoadOf_2 : decode cX7_greatestLoadOf 2 = .ok (.iload_n 2, 1) := by decide +kernel
theorem dX7_greatestLoadOf_3 : decode cX7_greatestLoadOf 3 = .ok (.ifCond .lt 20, 3) := by decide +kernel
theorem dX7_greatestLoadOf_6 : decode cX7_greatestLoadOf 6 = .ok (.aload_n 0, 1) := by decide +kernel
theorem dX7_greatestLoadOf_7 : decode cX7_greatestLoadOf 7 = .ok (.iload_n 1, 1) := by decide +kernel
theorem dX7_greatestLoadOf_8 : decode cX7_greatestLoadOf 8 = .ok (.iload_n 2, 1) := by decide +kernel
theorem dX7_greatestLoadOf_9 : decode cX7_greatestLoadOf 9 = .ok (.invokevirtual 15, 3) := by decide +kernel
theorem dX7_greatestLoadOf_12 : decode cX7_greatestLoadOf 12 = .ok (.ifCond .le 5, 3) := by decide +kernel
theorem dX7_greatestLoadOf_15 : decode cX7_greatestLoadOf 15 = .ok (.iload_n 2, 1) := by decide +kernel
theorem dX7_greatestLoadOf_16 : decode cX7_greatestLoadOf 16 = .ok (.ireturn, 1) := by decide +kernel
theorem dX7_greatestLoadOf_17 : decode cX7_greatestLoadOf 17 = .ok (.iinc 2 (-1), 3) := by decide +kernel
theorem dX7_greatestLoadOf_20 : decode cX7_greatestLoadOf 20 = .ok (.goto (-18), 3) := by decide +kernel
theorem dX7_greatestLoadOf_23 : decode cX7_greatestLoadOf 23 = .ok (.iconst (-1), 1) := by decide +kernel
theorem dX7_greatestLoadOf_24 : decode cX7_greatestLoadOf 24 = .ok (.ireturn, 1) := by decide +kernel
theorem dX7_dropRow_0 : decode cX7_dropRow 0 = .ok (.iload_n 1, 1) := by decide +kernel
theorem dX7_dropRow_1 : decode cX7_dropRow 1 = .ok (.istore_n 2, 1) := by decide +kernel
theorem dX7_dropRow_2 : decode cX7_dropRow 2 = .ok (.iload_n 2, 1) := by decide +kernel
theorem dX7_dropRow_3 : decode cX7_dropRow 3 = .ok (.bipush 6, 2) := by decide +kernel
theorem dX7_dropRow_5 : decode cX7_dropRow 5 = .ok (.if_icmp .ge 37, 3) := by decide +kernel
theorem dX7_dropRow_8 : decode cX7_dropRow 8 = .ok (.iconst 0, 1) := by decide +kernel
theorem dX7_dropRow_9 : decode cX7_dropRow 9 = .ok (.istore_n 3, 1) := by decide +kernel
theorem dX7_dropRow_10 : decode cX7_dropRow 10 = .ok (.iload_n 3, 1) := by decide +kernel
theorem dX7_dropRow_11 : decode cX7_dropRow 11 = .ok (.bipush 6, 2) := by decide +kernel
theorem dX7_dropRow_13 : decode cX7_dropRow 13 = .ok (.if_icmp .ge 23, 3) := by decide +kernel
theorem dX7_dropRow_16 : decode cX7_dropRow 16 = .ok (.aload_n 0, 1) := by decide +kernel
theorem dX7_dropRow_17 : decode cX7_dropRow 17 = .ok (.iload_n 2, 1) := by decide +kernel
theorem dX7_dropRow_18 : decode cX7_dropRow 18 = .ok (.iload_n 3, 1) := by decide +kernel
theorem dX7_dropRow_19 : decode cX7_dropRow 19 = .ok (.aload_n 0, 1) := by decide +kernel
theorem dX7_dropRow_20 : decode cX7_dropRow 20 = .ok (.iload_n 2, 1) := by decide +kernel
theorem dX7_dropRow_21 : decode cX7_dropRow 21 = .ok (.iconst 1, 1) := by decide +kernel
theorem dX7_dropRow_22 : decode cX7_dropRow 22 = .ok (.iadd, 1) := by decide +kernel
theorem dX7_dropRow_23 : decode cX7_dropRow 23 = .ok (.iload_n 3, 1) := by decide +kernel
theorem dX7_dropRow_24 : decode cX7_dropRow 24 = .ok (.invokevirtual 15, 3) := by decide +kernel
theorem dX7_dropRow_27 : decode cX7_dropRow 27 = .ok (.invokevirtual 19, 3) := by decide +kernel
theorem dX7_dropRow_30 : decode cX7_dropRow 30 = .ok (.iinc 3 1, 3) := by decide +kernel
theorem dX7_dropRow_33 : decode cX7_dropRow 33 = .ok (.goto (-23), 3) := by decide +kernel
theorem dX7_dropRow_36 : decode cX7_dropRow 36 = .ok (.iinc 2 1, 3) := by decide +kernel
theorem dX7_dropRow_39 : decode cX7_dropRow 39 = .ok (.goto (-37), 3) := by decide +kernel
theorem dX7_dropRow_42 : decode cX7_dropRow 42 = .ok (.return_, 1) := by decide +kernel
theorem dX7_copyFrom_0 : decode cX7_copyFrom 0 = .ok (.iconst 0, 1) := by decide +kernel
theorem dX7_copyFrom_1 : decode cX7_copyFrom 1 = .ok (.istore_n 2, 1) := by decide +kernel
theorem dX7_copyFrom_2 : decode cX7_copyFrom 2 = .ok (.iload_n 2, 1) := by decide +kernel
theorem dX7_copyFrom_3 : decode cX7_copyFrom 3 = .ok (.aload_n 0, 1) := by decide +kernel
theorem dX7_copyFrom_4 : decode cX7_copyFrom 4 = .ok (.getfield 9, 3) := by decide +kernel
theorem dX7_copyFrom_7 : decode cX7_copyFrom 7 = .ok (.arraylength, 1) := by decide +kernel
theorem dX7_copyFrom_8 : decode cX7_copyFrom 8 = .ok (.if_icmp .ge 30, 3) := by decide +kernel
theorem dX7_copyFrom_11 : decode cX7_copyFrom 11 = .ok (.iload_n 2, 1) := by decide +kernel
theorem dX7_copyFrom_12 : decode cX7_copyFrom 12 = .ok (.aload_n 1, 1) := by decide +kernel
theorem dX7_copyFrom_13 : decode cX7_copyFrom 13 = .ok (.getfield 9, 3) := by decide +kernel
theorem dX7_copyFrom_16 : decode cX7_copyFrom 16 = .ok (.arraylength, 1) := by decide +kernel
theorem dX7_copyFrom_17 : decode cX7_copyFrom 17 = .ok (.if_icmp .ge 21, 3) := by decide +kernel
theorem dX7_copyFrom_20 : decode cX7_copyFrom 20 = .ok (.aload_n 0, 1) := by decide +kernel
theorem dX7_copyFrom_21 : decode cX7_copyFrom 21 = .ok (.getfield 9, 3) := by decide +kernel
theorem dX7_copyFrom_24 : decode cX7_copyFrom 24 = .ok (.iload_n 2, 1) := by decide +kernel
theorem dX7_copyFrom_25 : decode cX7_copyFrom 25 = .ok (.aload_n 1, 1) := by decide +kernel
theorem dX7_copyFrom_26 : decode cX7_copyFrom 26 = .ok (.getfield 9, 3) := by decide +kernel
theorem dX7_copyFrom_29 : decode cX7_copyFrom 29 = .ok (.iload_n 2, 1) := by decide +kernel
theorem dX7_copyFrom_30 : decode cX7_copyFrom 30 = .ok (.iaload, 1) := by decide +kernel
theorem dX7_copyFrom_31 : decode cX7_copyFrom 31 = .ok (.iastore, 1) := by decide +kernel
theorem dX7_copyFrom_32 : decode cX7_copyFrom 32 = .ok (.iinc 2 1, 3) := by decide +kernel
theorem dX7_copyFrom_35 : decode cX7_copyFrom 35 = .ok (.goto (-33), 3) := by decide +kernel
theorem dX7_copyFrom_38 : decode cX7_copyFrom 38 = .ok (.return_, 1) := by decide +kernel
theorem dX8_init_0 : decode cX8_init 0 = .ok (.aload_n 0, 1) := by decide +kernel
theorem dX8_init_1 : decode cX8_init 1 = .ok (.invokespecial 3, 3) := by decide +kernel
theorem dX8_init_4 : decode cX8_init 4 = .ok (.aload_n 0, 1) := by decide +kernel
theorem dX8_init_5 : decode cX8_init 5 = .ok (.bipush 60, 2) := by decide +kernel
theorem dX8_init_7 : decode cX8_init 7 = .ok (.newarray .int, 2) := by decide +kernel
theorem dX8_init_9 : decode cX8_init 9 = .ok (.putfield 9, 3) := by decide +kernel
theorem dX8_init_12 : decode cX8_init 12 = .ok (.aload_n 0, 1) := by decide +kernel
theorem dX8_init_13 : decode cX8_init 13 = .ok (.iconst 0, 1) := by decide +kernel
theorem dX8_init_14 : decode cX8_init 14 = .ok (.putfield 15, 3) := by decide +kernel
theorem dX8_init_17 : decode cX8_init 17 = .ok (.return_, 1) := by decide +kernel
theorem dX8_add_0 : decode cX8_add 0 = .ok (.aload_n 0, 1) := by decide +kernel
theorem dX8_add_1 : decode cX8_add 1 = .ok (.getfield 15, 3) := by decide +kernel
theorem dX8_add_4 : decode cX8_add 4 = .ok (.ifCond .lt 35, 3) := by decide +kernel
theorem dX8_add_7 : decode cX8_add 7 = .ok (.aload_n 0, 1) := by decide +kernel
theorem dX8_add_8 : decode cX8_add 8 = .ok (.getfield 15, 3) := by decide +kernel
theorem dX8_add_11 : decode cX8_add 11 = .ok (.aload_n 0, 1) := by decide +kernel
theorem dX8_add_12 : decode cX8_add 12 = .ok (.getfield 9, 3) := by decide +kernel
theorem dX8_add_15 : decode cX8_add 15 = .ok (.arraylength, 1) := by decide +kernel
theorem dX8_add_16 : decode cX8_add 16 = .ok (.if_icmp .ge 23, 3) := by decide +kernel
theorem dX8_add_19 : decode cX8_add 19 = .ok (.aload_n 0, 1) := by decide +kernel
theorem dX8_add_20 : decode cX8_add 20 = .ok (.getfield 9, 3) := by decide +kernel
theorem dX8_add_23 : decode cX8_add 23 = .ok (.aload_n 0, 1) := by decide +kernel
theorem dX8_add_24 : decode cX8_add 24 = .ok (.getfield 15, 3) := by decide +kernel
theorem dX8_add_27 : decode cX8_add 27 = .ok (.iload_n 1, 1) := by decide +kernel
theorem dX8_add_28 : decode cX8_add 28 = .ok (.iastore, 1) := by decide +kernel
theorem dX8_add_29 : decode cX8_add 29 = .ok (.aload_n 0, 1) := by decide +kernel
theorem dX8_add_30 : decode cX8_add 30 = .ok (.dup, 1) := by decide +kernel
theorem dX8_add_31 : decode cX8_add 31 = .ok (.getfield 15, 3) := by decide +kernel
theorem dX8_add_34 : decode cX8_add 34 = .ok (.iconst 1, 1) := by decide +kernel
theorem dX8_add_35 : decode cX8_add 35 = .ok (.iadd, 1) := by decide +kernel
theorem dX8_add_36 : decode cX8_add 36 = .ok (.putfield 15, 3) := by decide +kernel
theorem dX8_add_39 : decode cX8_add 39 = .ok (.return_, 1) := by decide +kernel
theorem dX8_clear_0 : decode cX8_clear 0 = .ok (.aload_n 0, 1) := by decide +kernel
theorem dX8_clear_1 : decode cX8_clear 1 = .ok (.iconst 0, 1) := by decide +kernel
theorem dX8_clear_2 : decode cX8_clear 2 = .ok (.putfield 15, 3) := by decide +kernel
theorem dX8_clear_5 : decode cX8_clear 5 = .ok (.return_, 1) := by decide +kernel
theorem dX8_codeAt_0 : decode cX8_codeAt 0 = .ok (.iload_n 1, 1) := by decide +kernel
theorem dX8_codeAt_1 : decode cX8_codeAt 1 = .ok (.ifCond .lt 29, 3) := by decide +kernel
theorem dX8_codeAt_4 : decode cX8_codeAt 4 = .ok (.iload_n 1, 1) := by decide +kernel
theorem dX8_codeAt_5 : decode cX8_codeAt 5 = .ok (.aload_n 0, 1) := by decide +kernel
theorem dX8_codeAt_6 : decode cX8_codeAt 6 = .ok (.getfield 15, 3) := by decide +kernel
theorem dX8_codeAt_9 : decode cX8_codeAt 9 = .ok (.if_icmp .ge 21, 3) := by decide +kernel
theorem dX8_codeAt_12 : decode cX8_codeAt 12 = .ok (.iload_n 1, 1) := by decide +kernel
theorem dX8_codeAt_13 : decode cX8_codeAt 13 = .ok (.aload_n 0, 1) := by decide +kernel
theorem dX8_codeAt_14 : decode cX8_codeAt 14 = .ok (.getfield 9, 3) := by decide +kernel
theorem dX8_codeAt_17 : decode cX8_codeAt 17 = .ok (.arraylength, 1) := by decide +kernel
theorem dX8_codeAt_18 : decode cX8_codeAt 18 = .ok (.if_icmp .ge 12, 3) := by decide +kernel
theorem dX8_codeAt_21 : decode cX8_codeAt 21 = .ok (.aload_n 0, 1) := by decide +kernel
theorem dX8_codeAt_22 : decode cX8_codeAt 22 = .ok (.getfield 9, 3) := by decide +kernel
theorem dX8_codeAt_25 : decode cX8_codeAt 25 = .ok (.iload_n 1, 1) := by decide +kernel
theorem dX8_codeAt_26 : decode cX8_codeAt 26 = .ok (.iaload, 1) := by decide +kernel
theorem dX8_codeAt_27 : decode cX8_codeAt 27 = .ok (.goto 4, 3) := by decide +kernel
theorem dX8_codeAt_30 : decode cX8_codeAt 30 = .ok (.iconst 0, 1) := by decide +kernel
theorem dX8_codeAt_31 : decode cX8_codeAt 31 = .ok (.ireturn, 1) := by decide +kernel
theorem dX8_addPartsTo_0 : decode cX8_addPartsTo 0 = .ok (.aload_n 1, 1) := by decide +kernel
theorem dX8_addPartsTo_1 : decode cX8_addPartsTo 1 = .ok (.invokevirtual 19, 3) := by decide +kernel
theorem dX8_addPartsTo_4 : decode cX8_addPartsTo 4 = .ok (.istore_n 2, 1) := by decide +kernel
theorem dX8_addPartsTo_5 : decode cX8_addPartsTo 5 = .ok (.iconst 0, 1) := by decide +kernel
theorem dX8_addPartsTo_6 : decode cX8_addPartsTo 6 = .ok (.istore_n 3, 1) := by decide +kernel
theorem dX8_addPartsTo_7 : decode cX8_addPartsTo 7 = .ok (.iconst 0, 1) := by decide +kernel
theorem dX8_addPartsTo_8 : decode cX8_addPartsTo 8 = .ok (.istore 4, 2) := by decide +kernel
theorem dX8_addPartsTo_10 : decode cX8_addPartsTo 10 = .ok (.iload 4, 2) := by decide +kernel
theorem dX8_addPartsTo_12 : decode cX8_addPartsTo 12 = .ok (.aload_n 0, 1) := by decide +kernel
theorem dX8_addPartsTo_13 : decode cX8_addPartsTo 13 = .ok (.getfield 15, 3) := by decide +kernel
theorem dX8_addPartsTo_16 : decode cX8_addPartsTo 16 = .ok (.if_icmp .ge 48, 3) := by decide +kernel
theorem dX8_addPartsTo_19 : decode cX8_addPartsTo 19 = .ok (.aload_n 0, 1) := by decide +kernel
theorem dX8_addPartsTo_20 : decode cX8_addPartsTo 20 = .ok (.iload 4, 2) := by decide +kernel
theorem dX8_addPartsTo_22 : decode cX8_addPartsTo 22 = .ok (.invokevirtual 25, 3) := by decide +kernel
theorem dX8_addPartsTo_25 : decode cX8_addPartsTo 25 = .ok (.istore 5, 2) := by decide +kernel
theorem dX8_addPartsTo_27 : decode cX8_addPartsTo 27 = .ok (.iload 5, 2) := by decide +kernel
theorem dX8_addPartsTo_29 : decode cX8_addPartsTo 29 = .ok (.bipush 59, 2) := by decide +kernel
theorem dX8_addPartsTo_31 : decode cX8_addPartsTo 31 = .ok (.if_icmp .ne 13, 3) := by decide +kernel
theorem dX8_addPartsTo_34 : decode cX8_addPartsTo 34 = .ok (.aload_n 1, 1) := by decide +kernel
theorem dX8_addPartsTo_35 : decode cX8_addPartsTo 35 = .ok (.invokevirtual 19, 3) := by decide +kernel
theorem dX8_addPartsTo_38 : decode cX8_addPartsTo 38 = .ok (.istore_n 2, 1) := by decide +kernel
theorem dX8_addPartsTo_39 : decode cX8_addPartsTo 39 = .ok (.iconst 0, 1) := by decide +kernel
theorem dX8_addPartsTo_40 : decode cX8_addPartsTo 40 = .ok (.istore_n 3, 1) := by decide +kernel
theorem dX8_addPartsTo_41 : decode cX8_addPartsTo 41 = .ok (.goto 17, 3) := by decide +kernel
theorem dX8_addPartsTo_44 : decode cX8_addPartsTo 44 = .ok (.aload_n 1, 1) := by decide +kernel
theorem dX8_addPartsTo_45 : decode cX8_addPartsTo 45 = .ok (.iload_n 2, 1) := by decide +kernel
theorem dX8_addPartsTo_46 : decode cX8_addPartsTo 46 = .ok (.iload_n 3, 1) := by decide +kernel
theorem dX8_addPartsTo_47 : decode cX8_addPartsTo 47 = .ok (.iload 5, 2) := by decide +kernel
theorem dX8_addPartsTo_49 : decode cX8_addPartsTo 49 = .ok (.bipush 48, 2) := by decide +kernel
theorem dX8_addPartsTo_51 : decode cX8_addPartsTo 51 = .ok (.isub, 1) := by decide +kernel
theorem dX8_addPartsTo_52 : decode cX8_addPartsTo 52 = .ok (.invokevirtual 29, 3) := by decide +kernel
theorem dX8_addPartsTo_55 : decode cX8_addPartsTo 55 = .ok (.iinc 3 1, 3) := by decide +kernel
theorem dX8_addPartsTo_58 : decode cX8_addPartsTo 58 = .ok (.iinc 4 1, 3) := by decide +kernel
theorem dX8_addPartsTo_61 : decode cX8_addPartsTo 61 = .ok (.goto (-51), 3) := by decide +kernel
theorem dX8_addPartsTo_64 : decode cX8_addPartsTo 64 = .ok (.return_, 1) := by decide +kernel
theorem dX9_init_0 : decode cX9_init 0 = .ok (.aload_n 0, 1) := by decide +kernel
theorem dX9_init_1 : decode cX9_init 1 = .ok (.invokespecial 3, 3) := by decide +kernel
theorem dX9_init_4 : decode cX9_init 4 = .ok (.aload_n 0, 1) := by decide +kernel
theorem dX9_init_5 : decode cX9_init 5 = .ok (.new 9, 3) := by decide +kernel
theorem dX9_init_8 : decode cX9_init 8 = .ok (.dup, 1) := by decide +kernel
theorem dX9_init_9 : decode cX9_init 9 = .ok (.invokespecial 11, 3) := by decide +kernel
theorem dX9_init_12 : decode cX9_init 12 = .ok (.putfield 12, 3) := by decide +kernel
theorem dX9_init_15 : decode cX9_init 15 = .ok (.aload_n 0, 1) := by decide +kernel
theorem dX9_init_16 : decode cX9_init 16 = .ok (.new 16, 3) := by decide +kernel
theorem dX9_init_19 : decode cX9_init 19 = .ok (.dup, 1) := by decide +kernel
theorem dX9_init_20 : decode cX9_init 20 = .ok (.invokespecial 18, 3) := by decide +kernel
theorem dX9_init_23 : decode cX9_init 23 = .ok (.putfield 19, 3) := by decide +kernel
theorem dX9_init_26 : decode cX9_init 26 = .ok (.aload_n 0, 1) := by decide +kernel
theorem dX9_init_27 : decode cX9_init 27 = .ok (.new 23, 3) := by decide +kernel
theorem dX9_init_30 : decode cX9_init 30 = .ok (.dup, 1) := by decide +kernel
theorem dX9_init_31 : decode cX9_init 31 = .ok (.invokespecial 25, 3) := by decide +kernel
theorem dX9_init_34 : decode cX9_init 34 = .ok (.putfield 26, 3) := by decide +kernel
theorem dX9_init_37 : decode cX9_init 37 = .ok (.aload_n 0, 1) := by decide +kernel
theorem dX9_init_38 : decode cX9_init 38 = .ok (.new 30, 3) := by decide +kernel
theorem dX9_init_41 : decode cX9_init 41 = .ok (.dup, 1) := by decide +kernel
theorem dX9_init_42 : decode cX9_init 42 = .ok (.invokespecial 32, 3) := by decide +kernel
theorem dX9_init_45 : decode cX9_init 45 = .ok (.putfield 33, 3) := by decide +kernel
theorem dX9_init_48 : decode cX9_init 48 = .ok (.aload_n 0, 1) := by decide +kernel
theorem dX9_init_49 : decode cX9_init 49 = .ok (.new 37, 3) := by decide +kernel
theorem dX9_init_52 : decode cX9_init 52 = .ok (.dup, 1) := by decide +kernel
theorem dX9_init_53 : decode cX9_init 53 = .ok (.invokespecial 39, 3) := by decide +kernel
theorem dX9_init_56 : decode cX9_init 56 = .ok (.putfield 40, 3) := by decide +kernel
theorem dX9_init_59 : decode cX9_init 59 = .ok (.aload_n 0, 1) := by decide +kernel
theorem dX9_init_60 : decode cX9_init 60 = .ok (.new 44, 3) := by decide +kernel
theorem dX9_init_63 : decode cX9_init 63 = .ok (.dup, 1) := by decide +kernel
theorem dX9_init_64 : decode cX9_init 64 = .ok (.invokespecial 46, 3) := by decide +kernel
theorem dX9_init_67 : decode cX9_init 67 = .ok (.putfield 47, 3) := by decide +kernel
theorem dX9_init_70 : decode cX9_init 70 = .ok (.return_, 1) := by decide +kernel
theorem dX9_addPart_0 : decode cX9_addPart 0 = .ok (.iload_n 1, 1) := by decide +kernel
theorem dX9_addPart_1 : decode cX9_addPart 1 = .ok (.ifCond .lt 9, 3) := by decide +kernel
theorem dX9_addPart_4 : decode cX9_addPart 4 = .ok (.iload_n 1, 1) := by decide +kernel
theorem dX9_addPart_5 : decode cX9_addPart 5 = .ok (.bipush 6, 2) := by decide +kernel
theorem dX9_addPart_7 : decode cX9_addPart 7 = .ok (.if_icmp .lt 13, 3) := by decide +kernel
theorem dX9_addPart_10 : decode cX9_addPart 10 = .ok (.new 51, 3) := by decide +kernel
theorem dX9_addPart_13 : decode cX9_addPart 13 = .ok (.dup, 1) := by decide +kernel
theorem dX9_addPart_14 : decode cX9_addPart 14 = .ok (.ldc 53, 2) := by decide +kernel
theorem dX9_addPart_16 : decode cX9_addPart 16 = .ok (.invokespecial 55, 3) := by decide +kernel
theorem dX9_addPart_19 : decode cX9_addPart 19 = .ok (.athrow, 1) := by decide +kernel
theorem dX9_addPart_20 : decode cX9_addPart 20 = .ok (.aload_n 0, 1) := by decide +kernel
theorem dX9_addPart_21 : decode cX9_addPart 21 = .ok (.getfield 12, 3) := by decide +kernel
theorem dX9_addPart_24 : decode cX9_addPart 24 = .ok (.getfield 58, 3) := by decide +kernel
theorem dX9_addPart_27 : decode cX9_addPart 27 = .ok (.bipush 6, 2) := by decide +kernel
theorem dX9_addPart_29 : decode cX9_addPart 29 = .ok (.if_icmp .lt 13, 3) := by decide +kernel
theorem dX9_addPart_32 : decode cX9_addPart 32 = .ok (.new 62, 3) := by decide +kernel
theorem dX9_addPart_35 : decode cX9_addPart 35 = .ok (.dup, 1) := by decide +kernel
theorem dX9_addPart_36 : decode cX9_addPart 36 = .ok (.ldc 64, 2) := by decide +kernel
theorem dX9_addPart_38 : decode cX9_addPart 38 = .ok (.invokespecial 66, 3) := by decide +kernel
theorem dX9_addPart_41 : decode cX9_addPart 41 = .ok (.athrow, 1) := by decide +kernel
theorem dX9_addPart_42 : decode cX9_addPart 42 = .ok (.aload_n 0, 1) := by decide +kernel
theorem dX9_addPart_43 : decode cX9_addPart 43 = .ok (.getfield 19, 3) := by decide +kernel
theorem dX9_addPart_46 : decode cX9_addPart 46 = .ok (.aload_n 0, 1) := by decide +kernel
theorem dX9_addPart_47 : decode cX9_addPart 47 = .ok (.getfield 12, 3) := by decide +kernel
theorem dX9_addPart_50 : decode cX9_addPart 50 = .ok (.invokevirtual 67, 3) := by decide +kernel
theorem dX9_addPart_53 : decode cX9_addPart 53 = .ok (.aload_n 0, 1) := by decide +kernel
theorem dX9_addPart_54 : decode cX9_addPart 54 = .ok (.getfield 12, 3) := by decide +kernel
theorem dX9_addPart_57 : decode cX9_addPart 57 = .ok (.invokevirtual 71, 3) := by decide +kernel
theorem dX9_addPart_60 : decode cX9_addPart 60 = .ok (.istore_n 2, 1) := by decide +kernel
theorem dX9_addPart_61 : decode cX9_addPart 61 = .ok (.iconst 0, 1) := by decide +kernel
theorem dX9_addPart_62 : decode cX9_addPart 62 = .ok (.istore_n 3, 1) := by decide +kernel
theorem dX9_addPart_63 : decode cX9_addPart 63 = .ok (.iload_n 3, 1) := by decide +kernel
theorem dX9_addPart_64 : decode cX9_addPart 64 = .ok (.iload_n 1, 1) := by decide +kernel
theorem dX9_addPart_65 : decode cX9_addPart 65 = .ok (.if_icmp .gt 19, 3) := by decide +kernel
theorem dX9_addPart_68 : decode cX9_addPart 68 = .ok (.aload_n 0, 1) := by decide +kernel
theorem dX9_addPart_69 : decode cX9_addPart 69 = .ok (.getfield 12, 3) := by decide +kernel
theorem dX9_addPart_72 : decode cX9_addPart 72 = .ok (.iload_n 2, 1) := by decide +kernel
theorem dX9_addPart_73 : decode cX9_addPart 73 = .ok (.iload_n 3, 1) := by decide +kernel
theorem dX9_addPart_74 : decode cX9_addPart 74 = .ok (.iconst 1, 1) := by decide +kernel
theorem dX9_addPart_75 : decode cX9_addPart 75 = .ok (.invokevirtual 75, 3) := by decide +kernel
theorem dX9_addPart_78 : decode cX9_addPart 78 = .ok (.iinc 3 1, 3) := by decide +kernel
theorem dX9_addPart_81 : decode cX9_addPart 81 = .ok (.goto (-18), 3) := by decide +kernel
theorem dX9_addPart_84 : decode cX9_addPart 84 = .ok (.iload_n 2, 1) := by decide +kernel
theorem dX9_addPart_85 : decode cX9_addPart 85 = .ok (.ireturn, 1) := by decide +kernel
theorem dX9_removePart_0 : decode cX9_removePart 0 = .ok (.aload_n 0, 1) := by decide +kernel
theorem dX9_removePart_1 : decode cX9_removePart 1 = .ok (.iload_n 1, 1) := by decide +kernel
theorem dX9_removePart_2 : decode cX9_removePart 2 = .ok (.invokevirtual 79, 3) := by decide +kernel
theorem dX9_removePart_5 : decode cX9_removePart 5 = .ok (.aload_n 0, 1) := by decide +kernel
theorem dX9_removePart_6 : decode cX9_removePart 6 = .ok (.getfield 19, 3) := by decide +kernel
theorem dX9_removePart_9 : decode cX9_removePart 9 = .ok (.aload_n 0, 1) := by decide +kernel
theorem dX9_removePart_10 : decode cX9_removePart 10 = .ok (.getfield 12, 3) := by decide +kernel
theorem dX9_removePart_13 : decode cX9_removePart 13 = .ok (.invokevirtual 67, 3) := by decide +kernel
theorem dX9_removePart_16 : decode cX9_removePart 16 = .ok (.aload_n 0, 1) := by decide +kernel
theorem dX9_removePart_17 : decode cX9_removePart 17 = .ok (.getfield 12, 3) := by decide +kernel
theorem dX9_removePart_20 : decode cX9_removePart 20 = .ok (.iload_n 1, 1) := by decide +kernel
theorem dX9_removePart_21 : decode cX9_removePart 21 = .ok (.invokevirtual 83, 3) := by decide +kernel
theorem dX9_removePart_24 : decode cX9_removePart 24 = .ok (.aload_n 0, 1) := by decide +kernel
theorem dX9_removePart_25 : decode cX9_removePart 25 = .ok (.getfield 12, 3) := by decide +kernel
theorem dX9_removePart_28 : decode cX9_removePart 28 = .ok (.getfield 58, 3) := by decide +kernel
theorem dX9_removePart_31 : decode cX9_removePart 31 = .ok (.ireturn, 1) := by decide +kernel
theorem dX9_weigh_0 : decode cX9_weigh 0 = .ok (.aload_n 0, 1) := by decide +kernel
theorem dX9_weigh_1 : decode cX9_weigh 1 = .ok (.iload_n 1, 1) := by decide +kernel
theorem dX9_weigh_2 : decode cX9_weigh 2 = .ok (.invokevirtual 79, 3) := by decide +kernel
theorem dX9_weigh_5 : decode cX9_weigh 5 = .ok (.iload_n 2, 1) := by decide +kernel
theorem dX9_weigh_6 : decode cX9_weigh 6 = .ok (.invokestatic 86, 3) := by decide +kernel
theorem dX9_weigh_9 : decode cX9_weigh 9 = .ok (.iload_n 3, 1) := by decide +kernel
theorem dX9_weigh_10 : decode cX9_weigh 10 = .ok (.iconst 0, 1) := by decide +kernel
theorem dX9_weigh_11 : decode cX9_weigh 11 = .ok (.bipush 9, 2) := by decide +kernel
theorem dX9_weigh_13 : decode cX9_weigh 13 = .ok (.invokestatic 89, 3) := by decide +kernel
theorem dX9_weigh_16 : decode cX9_weigh 16 = .ok (.aload_n 0, 1) := by decide +kernel
theorem dX9_weigh_17 : decode cX9_weigh 17 = .ok (.getfield 12, 3) := by decide +kernel
theorem dX9_weigh_20 : decode cX9_weigh 20 = .ok (.getfield 92, 3) := by decide +kernel
theorem dX9_weigh_23 : decode cX9_weigh 23 = .ok (.iload_n 1, 1) := by decide +kernel
theorem dX9_weigh_24 : decode cX9_weigh 24 = .ok (.iload_n 2, 1) := by decide +kernel
theorem dX9_weigh_25 : decode cX9_weigh 25 = .ok (.invokevirtual 96, 3) := by decide +kernel
theorem dX9_weigh_28 : decode cX9_weigh 28 = .ok (.istore 4, 2) := by decide +kernel
theorem dX9_weigh_30 : decode cX9_weigh 30 = .ok (.iload_n 3, 1) := by decide +kernel
theorem dX9_weigh_31 : decode cX9_weigh 31 = .ok (.ifCond .ne 29, 3) := by decide +kernel
theorem dX9_weigh_34 : decode cX9_weigh 34 = .ok (.aload_n 0, 1) := by decide +kernel
theorem dX9_weigh_35 : decode cX9_weigh 35 = .ok (.getfield 12, 3) := by decide +kernel
theorem dX9_weigh_38 : decode cX9_weigh 38 = .ok (.getfield 92, 3) := by decide +kernel
theorem dX9_weigh_41 : decode cX9_weigh 41 = .ok (.iload_n 1, 1) := by decide +kernel
theorem dX9_weigh_42 : decode cX9_weigh 42 = .ok (.invokevirtual 102, 3) := by decide +kernel
theorem dX9_weigh_45 : decode cX9_weigh 45 = .ok (.iload 4, 2) := by decide +kernel
theorem dX9_weigh_47 : decode cX9_weigh 47 = .ok (.if_icmp .ne 13, 3) := by decide +kernel
theorem dX9_weigh_50 : decode cX9_weigh 50 = .ok (.new 62, 3) := by decide +kernel
theorem dX9_weigh_53 : decode cX9_weigh 53 = .ok (.dup, 1) := by decide +kernel
theorem dX9_weigh_54 : decode cX9_weigh 54 = .ok (.ldc 106, 2) := by decide +kernel
theorem dX9_weigh_56 : decode cX9_weigh 56 = .ok (.invokespecial 66, 3) := by decide +kernel
theorem dX9_weigh_59 : decode cX9_weigh 59 = .ok (.athrow, 1) := by decide +kernel
theorem dX9_weigh_60 : decode cX9_weigh 60 = .ok (.aload_n 0, 1) := by decide +kernel
theorem dX9_weigh_61 : decode cX9_weigh 61 = .ok (.getfield 19, 3) := by decide +kernel
theorem dX9_weigh_64 : decode cX9_weigh 64 = .ok (.aload_n 0, 1) := by decide +kernel
theorem dX9_weigh_65 : decode cX9_weigh 65 = .ok (.getfield 12, 3) := by decide +kernel
theorem dX9_weigh_68 : decode cX9_weigh 68 = .ok (.invokevirtual 67, 3) := by decide +kernel
theorem dX9_weigh_71 : decode cX9_weigh 71 = .ok (.aload_n 0, 1) := by decide +kernel
theorem dX9_weigh_72 : decode cX9_weigh 72 = .ok (.getfield 12, 3) := by decide +kernel
theorem dX9_weigh_75 : decode cX9_weigh 75 = .ok (.iload_n 1, 1) := by decide +kernel
theorem dX9_weigh_76 : decode cX9_weigh 76 = .ok (.iload_n 2, 1) := by decide +kernel
theorem dX9_weigh_77 : decode cX9_weigh 77 = .ok (.iload_n 3, 1) := by decide +kernel
theorem dX9_weigh_78 : decode cX9_weigh 78 = .ok (.invokevirtual 108, 3) := by decide +kernel
theorem dX9_weigh_81 : decode cX9_weigh 81 = .ok (.iload 4, 2) := by decide +kernel
theorem dX9_weigh_83 : decode cX9_weigh 83 = .ok (.ireturn, 1) := by decide +kernel
theorem dX9_tilt_0 : decode cX9_tilt 0 = .ok (.aload_n 0, 1) := by decide +kernel
theorem dX9_tilt_1 : decode cX9_tilt 1 = .ok (.iload_n 1, 1) := by decide +kernel
theorem dX9_tilt_2 : decode cX9_tilt 2 = .ok (.invokevirtual 79, 3) := by decide +kernel
theorem dX9_tilt_5 : decode cX9_tilt 5 = .ok (.iload_n 2, 1) := by decide +kernel
theorem dX9_tilt_6 : decode cX9_tilt 6 = .ok (.invokestatic 86, 3) := by decide +kernel
theorem dX9_tilt_9 : decode cX9_tilt 9 = .ok (.iload_n 3, 1) := by decide +kernel
theorem dX9_tilt_10 : decode cX9_tilt 10 = .ok (.iconst 1, 1) := by decide +kernel
theorem dX9_tilt_11 : decode cX9_tilt 11 = .ok (.bipush 99, 2) := by decide +kernel
theorem dX9_tilt_13 : decode cX9_tilt 13 = .ok (.invokestatic 89, 3) := by decide +kernel
theorem dX9_tilt_16 : decode cX9_tilt 16 = .ok (.aload_n 0, 1) := by decide +kernel
theorem dX9_tilt_17 : decode cX9_tilt 17 = .ok (.getfield 12, 3) := by decide +kernel
theorem dX9_tilt_20 : decode cX9_tilt 20 = .ok (.getfield 92, 3) := by decide +kernel
theorem dX9_tilt_23 : decode cX9_tilt 23 = .ok (.iload_n 1, 1) := by decide +kernel
theorem dX9_tilt_24 : decode cX9_tilt 24 = .ok (.iload_n 2, 1) := by decide +kernel
theorem dX9_tilt_25 : decode cX9_tilt 25 = .ok (.invokevirtual 96, 3) := by decide +kernel
theorem dX9_tilt_28 : decode cX9_tilt 28 = .ok (.ifCond .ne 13, 3) := by decide +kernel
theorem dX9_tilt_31 : decode cX9_tilt 31 = .ok (.new 62, 3) := by decide +kernel
theorem dX9_tilt_34 : decode cX9_tilt 34 = .ok (.dup, 1) := by decide +kernel
theorem dX9_tilt_35 : decode cX9_tilt 35 = .ok (.ldc 111, 2) := by decide +kernel
theorem dX9_tilt_37 : decode cX9_tilt 37 = .ok (.invokespecial 66, 3) := by decide +kernel
theorem dX9_tilt_40 : decode cX9_tilt 40 = .ok (.athrow, 1) := by decide +kernel
theorem dX9_tilt_41 : decode cX9_tilt 41 = .ok (.aload_n 0, 1) := by decide +kernel
theorem dX9_tilt_42 : decode cX9_tilt 42 = .ok (.getfield 19, 3) := by decide +kernel
theorem dX9_tilt_45 : decode cX9_tilt 45 = .ok (.aload_n 0, 1) := by decide +kernel
theorem dX9_tilt_46 : decode cX9_tilt 46 = .ok (.getfield 12, 3) := by decide +kernel
theorem dX9_tilt_49 : decode cX9_tilt 49 = .ok (.invokevirtual 67, 3) := by decide +kernel
theorem dX9_tilt_52 : decode cX9_tilt 52 = .ok (.aload_n 0, 1) := by decide +kernel
theorem dX9_tilt_53 : decode cX9_tilt 53 = .ok (.getfield 12, 3) := by decide +kernel
theorem dX9_tilt_56 : decode cX9_tilt 56 = .ok (.getfield 113, 3) := by decide +kernel
theorem dX9_tilt_59 : decode cX9_tilt 59 = .ok (.iload_n 1, 1) := by decide +kernel
theorem dX9_tilt_60 : decode cX9_tilt 60 = .ok (.iload_n 2, 1) := by decide +kernel
theorem dX9_tilt_61 : decode cX9_tilt 61 = .ok (.invokevirtual 96, 3) := by decide +kernel
theorem dX9_tilt_64 : decode cX9_tilt 64 = .ok (.istore 4, 2) := by decide +kernel
theorem dX9_tilt_66 : decode cX9_tilt 66 = .ok (.aload_n 0, 1) := by decide +kernel
theorem dX9_tilt_67 : decode cX9_tilt 67 = .ok (.getfield 12, 3) := by decide +kernel
theorem dX9_tilt_70 : decode cX9_tilt 70 = .ok (.iload_n 1, 1) := by decide +kernel
theorem dX9_tilt_71 : decode cX9_tilt 71 = .ok (.iload_n 2, 1) := by decide +kernel
theorem dX9_tilt_72 : decode cX9_tilt 72 = .ok (.iload_n 3, 1) := by decide +kernel
theorem dX9_tilt_73 : decode cX9_tilt 73 = .ok (.invokevirtual 116, 3) := by decide +kernel
theorem dX9_tilt_76 : decode cX9_tilt 76 = .ok (.iload 4, 2) := by decide +kernel
theorem dX9_tilt_78 : decode cX9_tilt 78 = .ok (.ireturn, 1) := by decide +kernel
theorem dX9_tiltAll_0 : decode cX9_tiltAll 0 = .ok (.iload_n 1, 1) := by decide +kernel
theorem dX9_tiltAll_1 : decode cX9_tiltAll 1 = .ok (.iconst 0, 1) := by decide +kernel
theorem dX9_tiltAll_2 : decode cX9_tiltAll 2 = .ok (.bipush 9, 2) := by decide +kernel
theorem dX9_tiltAll_4 : decode cX9_tiltAll 4 = .ok (.invokestatic 89, 3) := by decide +kernel
theorem dX9_tiltAll_7 : decode cX9_tiltAll 7 = .ok (.aload_n 0, 1) := by decide +kernel
theorem dX9_tiltAll_8 : decode cX9_tiltAll 8 = .ok (.getfield 19, 3) := by decide +kernel
theorem dX9_tiltAll_11 : decode cX9_tiltAll 11 = .ok (.aload_n 0, 1) := by decide +kernel
theorem dX9_tiltAll_12 : decode cX9_tiltAll 12 = .ok (.getfield 12, 3) := by decide +kernel
theorem dX9_tiltAll_15 : decode cX9_tiltAll 15 = .ok (.invokevirtual 67, 3) := by decide +kernel
theorem dX9_tiltAll_18 : decode cX9_tiltAll 18 = .ok (.aload_n 0, 1) := by decide +kernel
theorem dX9_tiltAll_19 : decode cX9_tiltAll 19 = .ok (.getfield 12, 3) := by decide +kernel
theorem dX9_tiltAll_22 : decode cX9_tiltAll 22 = .ok (.iload_n 1, 1) := by decide +kernel
theorem dX9_tiltAll_23 : decode cX9_tiltAll 23 = .ok (.invokevirtual 119, 3) := by decide +kernel
theorem dX9_tiltAll_26 : decode cX9_tiltAll 26 = .ok (.aload_n 0, 1) := by decide +kernel
theorem dX9_tiltAll_27 : decode cX9_tiltAll 27 = .ok (.getfield 12, 3) := by decide +kernel
theorem dX9_tiltAll_30 : decode cX9_tiltAll 30 = .ok (.invokevirtual 122, 3) := by decide +kernel
theorem dX9_tiltAll_33 : decode cX9_tiltAll 33 = .ok (.ireturn, 1) := by decide +kernel
theorem dX9_limit_0 : decode cX9_limit 0 = .ok (.iload_n 1, 1) := by decide +kernel
theorem dX9_limit_1 : decode cX9_limit 1 = .ok (.iconst 0, 1) := by decide +kernel
theorem dX9_limit_2 : decode cX9_limit 2 = .ok (.bipush 99, 2) := by decide +kernel
theorem dX9_limit_4 : decode cX9_limit 4 = .ok (.invokestatic 89, 3) := by decide +kernel
theorem dX9_limit_7 : decode cX9_limit 7 = .ok (.aload_n 0, 1) := by decide +kernel
theorem dX9_limit_8 : decode cX9_limit 8 = .ok (.getfield 19, 3) := by decide +kernel
theorem dX9_limit_11 : decode cX9_limit 11 = .ok (.aload_n 0, 1) := by decide +kernel
theorem dX9_limit_12 : decode cX9_limit 12 = .ok (.getfield 12, 3) := by decide +kernel
theorem dX9_limit_15 : decode cX9_limit 15 = .ok (.invokevirtual 67, 3) := by decide +kernel
theorem dX9_limit_18 : decode cX9_limit 18 = .ok (.aload_n 0, 1) := by decide +kernel
theorem dX9_limit_19 : decode cX9_limit 19 = .ok (.getfield 12, 3) := by decide +kernel
theorem dX9_limit_22 : decode cX9_limit 22 = .ok (.getfield 125, 3) := by decide +kernel
theorem dX9_limit_25 : decode cX9_limit 25 = .ok (.istore_n 2, 1) := by decide +kernel
theorem dX9_limit_26 : decode cX9_limit 26 = .ok (.aload_n 0, 1) := by decide +kernel
theorem dX9_limit_27 : decode cX9_limit 27 = .ok (.getfield 12, 3) := by decide +kernel
theorem dX9_limit_30 : decode cX9_limit 30 = .ok (.iload_n 1, 1) := by decide +kernel
theorem dX9_limit_31 : decode cX9_limit 31 = .ok (.invokevirtual 128, 3) := by decide +kernel
theorem dX9_limit_34 : decode cX9_limit 34 = .ok (.iload_n 2, 1) := by decide +kernel
theorem dX9_limit_35 : decode cX9_limit 35 = .ok (.ireturn, 1) := by decide +kernel
theorem dX9_seed_0 : decode cX9_seed 0 = .ok (.iload_n 1, 1) := by decide +kernel
theorem dX9_seed_1 : decode cX9_seed 1 = .ok (.ifCond .ge 13, 3) := by decide +kernel
theorem dX9_seed_4 : decode cX9_seed 4 = .ok (.new 51, 3) := by decide +kernel
theorem dX9_seed_7 : decode cX9_seed 7 = .ok (.dup, 1) := by decide +kernel
theorem dX9_seed_8 : decode cX9_seed 8 = .ok (.ldc 131, 2) := by decide +kernel
theorem dX9_seed_10 : decode cX9_seed 10 = .ok (.invokespecial 55, 3) := by decide +kernel
theorem dX9_seed_13 : decode cX9_seed 13 = .ok (.athrow, 1) := by decide +kernel
theorem dX9_seed_14 : decode cX9_seed 14 = .ok (.aload_n 0, 1) := by decide +kernel
theorem dX9_seed_15 : decode cX9_seed 15 = .ok (.getfield 19, 3) := by decide +kernel
theorem dX9_seed_18 : decode cX9_seed 18 = .ok (.aload_n 0, 1) := by decide +kernel
theorem dX9_seed_19 : decode cX9_seed 19 = .ok (.getfield 12, 3) := by decide +kernel
theorem dX9_seed_22 : decode cX9_seed 22 = .ok (.invokevirtual 67, 3) := by decide +kernel
theorem dX9_seed_25 : decode cX9_seed 25 = .ok (.aload_n 0, 1) := by decide +kernel
theorem dX9_seed_26 : decode cX9_seed 26 = .ok (.getfield 12, 3) := by decide +kernel
theorem dX9_seed_29 : decode cX9_seed 29 = .ok (.getfield 133, 3) := by decide +kernel
theorem dX9_seed_32 : decode cX9_seed 32 = .ok (.istore_n 2, 1) := by decide +kernel
theorem dX9_seed_33 : decode cX9_seed 33 = .ok (.aload_n 0, 1) := by decide +kernel
theorem dX9_seed_34 : decode cX9_seed 34 = .ok (.getfield 12, 3) := by decide +kernel
theorem dX9_seed_37 : decode cX9_seed 37 = .ok (.iload_n 1, 1) := by decide +kernel
theorem dX9_seed_38 : decode cX9_seed 38 = .ok (.putfield 133, 3) := by decide +kernel
theorem dX9_seed_41 : decode cX9_seed 41 = .ok (.iload_n 2, 1) := by decide +kernel
theorem dX9_seed_42 : decode cX9_seed 42 = .ok (.ireturn, 1) := by decide +kernel
theorem dX9_draw_0 : decode cX9_draw 0 = .ok (.iload_n 1, 1) := by decide +kernel
theorem dX9_draw_1 : decode cX9_draw 1 = .ok (.iconst 1, 1) := by decide +kernel
theorem dX9_draw_2 : decode cX9_draw 2 = .ok (.bipush 64, 2) := by decide +kernel
theorem dX9_draw_4 : decode cX9_draw 4 = .ok (.invokestatic 89, 3) := by decide +kernel
theorem dX9_draw_7 : decode cX9_draw 7 = .ok (.aload_n 0, 1) := by decide +kernel
theorem dX9_draw_8 : decode cX9_draw 8 = .ok (.getfield 12, 3) := by decide +kernel
theorem dX9_draw_11 : decode cX9_draw 11 = .ok (.getfield 136, 3) := by decide +kernel
theorem dX9_draw_14 : decode cX9_draw 14 = .ok (.getfield 140, 3) := by decide +kernel
theorem dX9_draw_17 : decode cX9_draw 17 = .ok (.iload_n 1, 1) := by decide +kernel
theorem dX9_draw_18 : decode cX9_draw 18 = .ok (.iadd, 1) := by decide +kernel
theorem dX9_draw_19 : decode cX9_draw 19 = .ok (.sipush 9999, 3) := by decide +kernel
theorem dX9_draw_22 : decode cX9_draw 22 = .ok (.if_icmp .le 13, 3) := by decide +kernel
theorem dX9_draw_25 : decode cX9_draw 25 = .ok (.new 62, 3) := by decide +kernel
theorem dX9_draw_28 : decode cX9_draw 28 = .ok (.dup, 1) := by decide +kernel
theorem dX9_draw_29 : decode cX9_draw 29 = .ok (.ldc 145, 2) := by decide +kernel
theorem dX9_draw_31 : decode cX9_draw 31 = .ok (.invokespecial 66, 3) := by decide +kernel
theorem dX9_draw_34 : decode cX9_draw 34 = .ok (.athrow, 1) := by decide +kernel
theorem dX9_draw_35 : decode cX9_draw 35 = .ok (.aload_n 0, 1) := by decide +kernel
theorem dX9_draw_36 : decode cX9_draw 36 = .ok (.getfield 19, 3) := by decide +kernel
theorem dX9_draw_39 : decode cX9_draw 39 = .ok (.aload_n 0, 1) := by decide +kernel
theorem dX9_draw_40 : decode cX9_draw 40 = .ok (.getfield 12, 3) := by decide +kernel
theorem dX9_draw_43 : decode cX9_draw 43 = .ok (.invokevirtual 67, 3) := by decide +kernel
theorem dX9_draw_46 : decode cX9_draw 46 = .ok (.aload_n 0, 1) := by decide +kernel
theorem dX9_draw_47 : decode cX9_draw 47 = .ok (.getfield 12, 3) := by decide +kernel
theorem dX9_draw_50 : decode cX9_draw 50 = .ok (.getfield 136, 3) := by decide +kernel
theorem dX9_draw_53 : decode cX9_draw 53 = .ok (.getfield 147, 3) := by decide +kernel
theorem dX9_draw_56 : decode cX9_draw 56 = .ok (.istore_n 2, 1) := by decide +kernel
theorem dX9_draw_57 : decode cX9_draw 57 = .ok (.iconst 0, 1) := by decide +kernel
theorem dX9_draw_58 : decode cX9_draw 58 = .ok (.istore_n 3, 1) := by decide +kernel
theorem dX9_draw_59 : decode cX9_draw 59 = .ok (.iload_n 3, 1) := by decide +kernel
theorem dX9_draw_60 : decode cX9_draw 60 = .ok (.iload_n 1, 1) := by decide +kernel
theorem dX9_draw_61 : decode cX9_draw 61 = .ok (.if_icmp .ge 16, 3) := by decide +kernel
theorem dX9_draw_64 : decode cX9_draw 64 = .ok (.aload_n 0, 1) := by decide +kernel
theorem dX9_draw_65 : decode cX9_draw 65 = .ok (.getfield 12, 3) := by decide +kernel
theorem dX9_draw_68 : decode cX9_draw 68 = .ok (.invokevirtual 150, 3) := by decide +kernel
theorem dX9_draw_71 : decode cX9_draw 71 = .ok (.iinc 3 1, 3) := by decide +kernel
theorem dX9_draw_74 : decode cX9_draw 74 = .ok (.goto (-15), 3) := by decide +kernel
theorem dX9_draw_77 : decode cX9_draw 77 = .ok (.aload_n 0, 1) := by decide +kernel
theorem dX9_draw_78 : decode cX9_draw 78 = .ok (.getfield 12, 3) := by decide +kernel
theorem dX9_draw_81 : decode cX9_draw 81 = .ok (.getfield 136, 3) := by decide +kernel
theorem dX9_draw_84 : decode cX9_draw 84 = .ok (.getfield 147, 3) := by decide +kernel
theorem dX9_draw_87 : decode cX9_draw 87 = .ok (.iload_n 2, 1) := by decide +kernel
theorem dX9_draw_88 : decode cX9_draw 88 = .ok (.isub, 1) := by decide +kernel
theorem dX9_draw_89 : decode cX9_draw 89 = .ok (.ireturn, 1) := by decide +kernel
theorem dX9_forget_0 : decode cX9_forget 0 = .ok (.aload_n 0, 1) := by decide +kernel
theorem dX9_forget_1 : decode cX9_forget 1 = .ok (.getfield 19, 3) := by decide +kernel
theorem dX9_forget_4 : decode cX9_forget 4 = .ok (.aload_n 0, 1) := by decide +kernel
theorem dX9_forget_5 : decode cX9_forget 5 = .ok (.getfield 12, 3) := by decide +kernel
theorem dX9_forget_8 : decode cX9_forget 8 = .ok (.invokevirtual 67, 3) := by decide +kernel
theorem dX9_forget_11 : decode cX9_forget 11 = .ok (.aload_n 0, 1) := by decide +kernel
theorem dX9_forget_12 : decode cX9_forget 12 = .ok (.getfield 12, 3) := by decide +kernel
theorem dX9_forget_15 : decode cX9_forget 15 = .ok (.getfield 136, 3) := by decide +kernel
theorem dX9_forget_18 : decode cX9_forget 18 = .ok (.getfield 140, 3) := by decide +kernel
theorem dX9_forget_21 : decode cX9_forget 21 = .ok (.istore_n 1, 1) := by decide +kernel
theorem dX9_forget_22 : decode cX9_forget 22 = .ok (.aload_n 0, 1) := by decide +kernel
theorem dX9_forget_23 : decode cX9_forget 23 = .ok (.getfield 12, 3) := by decide +kernel
theorem dX9_forget_26 : decode cX9_forget 26 = .ok (.getfield 136, 3) := by decide +kernel
theorem dX9_forget_29 : decode cX9_forget 29 = .ok (.invokevirtual 153, 3) := by decide +kernel
theorem dX9_forget_32 : decode cX9_forget 32 = .ok (.iload_n 1, 1) := by decide +kernel
theorem dX9_forget_33 : decode cX9_forget 33 = .ok (.ireturn, 1) := by decide +kernel
theorem dX9_append_0 : decode cX9_append 0 = .ok (.iload_n 1, 1) := by decide +kernel
theorem dX9_append_1 : decode cX9_append 1 = .ok (.bipush 33, 2) := by decide +kernel
theorem dX9_append_3 : decode cX9_append 3 = .ok (.bipush 126, 2) := by decide +kernel
theorem dX9_append_5 : decode cX9_append 5 = .ok (.invokestatic 89, 3) := by decide +kernel
theorem dX9_append_8 : decode cX9_append 8 = .ok (.aload_n 0, 1) := by decide +kernel
theorem dX9_append_9 : decode cX9_append 9 = .ok (.getfield 26, 3) := by decide +kernel
theorem dX9_append_12 : decode cX9_append 12 = .ok (.getfield 156, 3) := by decide +kernel
theorem dX9_append_15 : decode cX9_append 15 = .ok (.bipush 60, 2) := by decide +kernel
theorem dX9_append_17 : decode cX9_append 17 = .ok (.if_icmp .lt 13, 3) := by decide +kernel
theorem dX9_append_20 : decode cX9_append 20 = .ok (.new 62, 3) := by decide +kernel
theorem dX9_append_23 : decode cX9_append 23 = .ok (.dup, 1) := by decide +kernel
theorem dX9_append_24 : decode cX9_append 24 = .ok (.ldc 159, 2) := by decide +kernel
theorem dX9_append_26 : decode cX9_append 26 = .ok (.invokespecial 66, 3) := by decide +kernel
theorem dX9_append_29 : decode cX9_append 29 = .ok (.athrow, 1) := by decide +kernel
theorem dX9_append_30 : decode cX9_append 30 = .ok (.aload_n 0, 1) := by decide +kernel
theorem dX9_append_31 : decode cX9_append 31 = .ok (.getfield 26, 3) := by decide +kernel
theorem dX9_append_34 : decode cX9_append 34 = .ok (.iload_n 1, 1) := by decide +kernel
theorem dX9_append_35 : decode cX9_append 35 = .ok (.invokevirtual 161, 3) := by decide +kernel
theorem dX9_append_38 : decode cX9_append 38 = .ok (.aload_n 0, 1) := by decide +kernel
theorem dX9_append_39 : decode cX9_append 39 = .ok (.getfield 26, 3) := by decide +kernel
theorem dX9_append_42 : decode cX9_append 42 = .ok (.getfield 156, 3) := by decide +kernel
theorem dX9_append_45 : decode cX9_append 45 = .ok (.ireturn, 1) := by decide +kernel
theorem dX9_clearBuffer_0 : decode cX9_clearBuffer 0 = .ok (.aload_n 0, 1) := by decide +kernel
theorem dX9_clearBuffer_1 : decode cX9_clearBuffer 1 = .ok (.getfield 26, 3) := by decide +kernel
theorem dX9_clearBuffer_4 : decode cX9_clearBuffer 4 = .ok (.getfield 156, 3) := by decide +kernel
theorem dX9_clearBuffer_7 : decode cX9_clearBuffer 7 = .ok (.istore_n 1, 1) := by decide +kernel
theorem dX9_clearBuffer_8 : decode cX9_clearBuffer 8 = .ok (.aload_n 0, 1) := by decide +kernel
theorem dX9_clearBuffer_9 : decode cX9_clearBuffer 9 = .ok (.getfield 26, 3) := by decide +kernel
theorem dX9_clearBuffer_12 : decode cX9_clearBuffer 12 = .ok (.invokevirtual 164, 3) := by decide +kernel
theorem dX9_clearBuffer_15 : decode cX9_clearBuffer 15 = .ok (.iload_n 1, 1) := by decide +kernel
theorem dX9_clearBuffer_16 : decode cX9_clearBuffer 16 = .ok (.ireturn, 1) := by decide +kernel
theorem dX9_firstError_0 : decode cX9_firstError 0 = .ok (.new 165, 3) := by decide +kernel
theorem dX9_firstError_3 : decode cX9_firstError 3 = .ok (.dup, 1) := by decide +kernel
theorem dX9_firstError_4 : decode cX9_firstError 4 = .ok (.invokespecial 167, 3) := by decide +kernel
theorem dX9_firstError_7 : decode cX9_firstError 7 = .ok (.aload_n 0, 1) := by decide +kernel
theorem dX9_firstError_8 : decode cX9_firstError 8 = .ok (.getfield 26, 3) := by decide +kernel
theorem dX9_firstError_11 : decode cX9_firstError 11 = .ok (.invokevirtual 168, 3) := by decide +kernel
theorem dX9_firstError_14 : decode cX9_firstError 14 = .ok (.ireturn, 1) := by decide +kernel
theorem dX9_addAll_0 : decode cX9_addAll 0 = .ok (.new 165, 3) := by decide +kernel
theorem dX9_addAll_3 : decode cX9_addAll 3 = .ok (.dup, 1) := by decide +kernel
theorem dX9_addAll_4 : decode cX9_addAll 4 = .ok (.invokespecial 167, 3) := by decide +kernel
theorem dX9_addAll_7 : decode cX9_addAll 7 = .ok (.astore_n 1, 1) := by decide +kernel
theorem dX9_addAll_8 : decode cX9_addAll 8 = .ok (.aload_n 1, 1) := by decide +kernel
theorem dX9_addAll_9 : decode cX9_addAll 9 = .ok (.aload_n 0, 1) := by decide +kernel
theorem dX9_addAll_10 : decode cX9_addAll 10 = .ok (.getfield 26, 3) := by decide +kernel
theorem dX9_addAll_13 : decode cX9_addAll 13 = .ok (.invokevirtual 168, 3) := by decide +kernel
theorem dX9_addAll_16 : decode cX9_addAll 16 = .ok (.aload_n 0, 1) := by decide +kernel
theorem dX9_addAll_17 : decode cX9_addAll 17 = .ok (.getfield 26, 3) := by decide +kernel
theorem dX9_addAll_20 : decode cX9_addAll 20 = .ok (.getfield 156, 3) := by decide +kernel
theorem dX9_addAll_23 : decode cX9_addAll 23 = .ok (.if_icmp .lt 10, 3) := by decide +kernel
theorem dX9_addAll_26 : decode cX9_addAll 26 = .ok (.aload_n 1, 1) := by decide +kernel
theorem dX9_addAll_27 : decode cX9_addAll 27 = .ok (.invokevirtual 172, 3) := by decide +kernel
theorem dX9_addAll_30 : decode cX9_addAll 30 = .ok (.ifCond .ne 13, 3) := by decide +kernel
theorem dX9_addAll_33 : decode cX9_addAll 33 = .ok (.new 51, 3) := by decide +kernel
theorem dX9_addAll_36 : decode cX9_addAll 36 = .ok (.dup, 1) := by decide +kernel
theorem dX9_addAll_37 : decode cX9_addAll 37 = .ok (.ldc 176, 2) := by decide +kernel
theorem dX9_addAll_39 : decode cX9_addAll 39 = .ok (.invokespecial 55, 3) := by decide +kernel
theorem dX9_addAll_42 : decode cX9_addAll 42 = .ok (.athrow, 1) := by decide +kernel
theorem dX9_addAll_43 : decode cX9_addAll 43 = .ok (.aload_n 0, 1) := by decide +kernel
theorem dX9_addAll_44 : decode cX9_addAll 44 = .ok (.getfield 12, 3) := by decide +kernel
theorem dX9_addAll_47 : decode cX9_addAll 47 = .ok (.getfield 58, 3) := by decide +kernel
theorem dX9_addAll_50 : decode cX9_addAll 50 = .ok (.aload_n 1, 1) := by decide +kernel
theorem dX9_addAll_51 : decode cX9_addAll 51 = .ok (.getfield 178, 3) := by decide +kernel
theorem dX9_addAll_54 : decode cX9_addAll 54 = .ok (.iadd, 1) := by decide +kernel
theorem dX9_addAll_55 : decode cX9_addAll 55 = .ok (.bipush 6, 2) := by decide +kernel
theorem dX9_addAll_57 : decode cX9_addAll 57 = .ok (.if_icmp .le 13, 3) := by decide +kernel
theorem dX9_addAll_60 : decode cX9_addAll 60 = .ok (.new 62, 3) := by decide +kernel
theorem dX9_addAll_63 : decode cX9_addAll 63 = .ok (.dup, 1) := by decide +kernel
theorem dX9_addAll_64 : decode cX9_addAll 64 = .ok (.ldc 179, 2) := by decide +kernel
theorem dX9_addAll_66 : decode cX9_addAll 66 = .ok (.invokespecial 66, 3) := by decide +kernel
theorem dX9_addAll_69 : decode cX9_addAll 69 = .ok (.athrow, 1) := by decide +kernel
theorem dX9_addAll_70 : decode cX9_addAll 70 = .ok (.aload_n 0, 1) := by decide +kernel
theorem dX9_addAll_71 : decode cX9_addAll 71 = .ok (.getfield 19, 3) := by decide +kernel
theorem dX9_addAll_74 : decode cX9_addAll 74 = .ok (.aload_n 0, 1) := by decide +kernel
theorem dX9_addAll_75 : decode cX9_addAll 75 = .ok (.getfield 12, 3) := by decide +kernel
theorem dX9_addAll_78 : decode cX9_addAll 78 = .ok (.invokevirtual 67, 3) := by decide +kernel
theorem dX9_addAll_81 : decode cX9_addAll 81 = .ok (.aload_n 0, 1) := by decide +kernel
theorem dX9_addAll_82 : decode cX9_addAll 82 = .ok (.getfield 26, 3) := by decide +kernel
theorem dX9_addAll_85 : decode cX9_addAll 85 = .ok (.aload_n 0, 1) := by decide +kernel
theorem dX9_addAll_86 : decode cX9_addAll 86 = .ok (.getfield 12, 3) := by decide +kernel
theorem dX9_addAll_89 : decode cX9_addAll 89 = .ok (.invokevirtual 181, 3) := by decide +kernel
theorem dX9_addAll_92 : decode cX9_addAll 92 = .ok (.aload_n 0, 1) := by decide +kernel
theorem dX9_addAll_93 : decode cX9_addAll 93 = .ok (.getfield 26, 3) := by decide +kernel
theorem dX9_addAll_96 : decode cX9_addAll 96 = .ok (.invokevirtual 164, 3) := by decide +kernel
theorem dX9_addAll_99 : decode cX9_addAll 99 = .ok (.aload_n 0, 1) := by decide +kernel
theorem dX9_addAll_100 : decode cX9_addAll 100 = .ok (.getfield 12, 3) := by decide +kernel
theorem dX9_addAll_103 : decode cX9_addAll 103 = .ok (.getfield 58, 3) := by decide +kernel
theorem dX9_addAll_106 : decode cX9_addAll 106 = .ok (.ireturn, 1) := by decide +kernel
theorem dX9_undo_0 : decode cX9_undo 0 = .ok (.aload_n 0, 1) := by decide +kernel
theorem dX9_undo_1 : decode cX9_undo 1 = .ok (.getfield 19, 3) := by decide +kernel
theorem dX9_undo_4 : decode cX9_undo 4 = .ok (.getfield 184, 3) := by decide +kernel
theorem dX9_undo_7 : decode cX9_undo 7 = .ok (.ifCond .ne 13, 3) := by decide +kernel
theorem dX9_undo_10 : decode cX9_undo 10 = .ok (.new 62, 3) := by decide +kernel
theorem dX9_undo_13 : decode cX9_undo 13 = .ok (.dup, 1) := by decide +kernel
theorem dX9_undo_14 : decode cX9_undo 14 = .ok (.ldc 185, 2) := by decide +kernel
theorem dX9_undo_16 : decode cX9_undo 16 = .ok (.invokespecial 66, 3) := by decide +kernel
theorem dX9_undo_19 : decode cX9_undo 19 = .ok (.athrow, 1) := by decide +kernel
theorem dX9_undo_20 : decode cX9_undo 20 = .ok (.aload_n 0, 1) := by decide +kernel
theorem dX9_undo_21 : decode cX9_undo 21 = .ok (.getfield 19, 3) := by decide +kernel
theorem dX9_undo_24 : decode cX9_undo 24 = .ok (.aload_n 0, 1) := by decide +kernel
theorem dX9_undo_25 : decode cX9_undo 25 = .ok (.getfield 12, 3) := by decide +kernel
theorem dX9_undo_28 : decode cX9_undo 28 = .ok (.invokevirtual 187, 3) := by decide +kernel
theorem dX9_undo_31 : decode cX9_undo 31 = .ok (.aload_n 0, 1) := by decide +kernel
theorem dX9_undo_32 : decode cX9_undo 32 = .ok (.getfield 19, 3) := by decide +kernel
theorem dX9_undo_35 : decode cX9_undo 35 = .ok (.getfield 184, 3) := by decide +kernel
theorem dX9_undo_38 : decode cX9_undo 38 = .ok (.ireturn, 1) := by decide +kernel
theorem dX9_part_0 : decode cX9_part 0 = .ok (.aload_n 0, 1) := by decide +kernel
theorem dX9_part_1 : decode cX9_part 1 = .ok (.iload_n 1, 1) := by decide +kernel
theorem dX9_part_2 : decode cX9_part 2 = .ok (.invokevirtual 79, 3) := by decide +kernel
theorem dX9_part_5 : decode cX9_part 5 = .ok (.iload_n 2, 1) := by decide +kernel
theorem dX9_part_6 : decode cX9_part 6 = .ok (.iconst 0, 1) := by decide +kernel
theorem dX9_part_7 : decode cX9_part 7 = .ok (.bipush 6, 2) := by decide +kernel
theorem dX9_part_9 : decode cX9_part 9 = .ok (.invokestatic 89, 3) := by decide +kernel
theorem dX9_part_12 : decode cX9_part 12 = .ok (.iload_n 2, 1) := by decide +kernel
theorem dX9_part_13 : decode cX9_part 13 = .ok (.tableswitch 111 0 5 #[39, 51, 63, 75, 87, 99], 39) := by decide +kernel
theorem dX9_part_52 : decode cX9_part 52 = .ok (.aload_n 0, 1) := by decide +kernel
theorem dX9_part_53 : decode cX9_part 53 = .ok (.getfield 12, 3) := by decide +kernel
theorem dX9_part_56 : decode cX9_part 56 = .ok (.getfield 92, 3) := by decide +kernel
theorem dX9_part_59 : decode cX9_part 59 = .ok (.iload_n 1, 1) := by decide +kernel
theorem dX9_part_60 : decode cX9_part 60 = .ok (.invokevirtual 102, 3) := by decide +kernel
theorem dX9_part_63 : decode cX9_part 63 = .ok (.ireturn, 1) := by decide +kernel
theorem dX9_part_64 : decode cX9_part 64 = .ok (.aload_n 0, 1) := by decide +kernel
theorem dX9_part_65 : decode cX9_part 65 = .ok (.getfield 12, 3) := by decide +kernel
theorem dX9_part_68 : decode cX9_part 68 = .ok (.getfield 113, 3) := by decide +kernel
theorem dX9_part_71 : decode cX9_part 71 = .ok (.iload_n 1, 1) := by decide +kernel
theorem dX9_part_72 : decode cX9_part 72 = .ok (.invokevirtual 102, 3) := by decide +kernel
theorem dX9_part_75 : decode cX9_part 75 = .ok (.ireturn, 1) := by decide +kernel
theorem dX9_part_76 : decode cX9_part 76 = .ok (.aload_n 0, 1) := by decide +kernel
theorem dX9_part_77 : decode cX9_part 77 = .ok (.getfield 12, 3) := by decide +kernel
theorem dX9_part_80 : decode cX9_part 80 = .ok (.getfield 92, 3) := by decide +kernel
theorem dX9_part_83 : decode cX9_part 83 = .ok (.iload_n 1, 1) := by decide +kernel
theorem dX9_part_84 : decode cX9_part 84 = .ok (.invokevirtual 190, 3) := by decide +kernel
theorem dX9_part_87 : decode cX9_part 87 = .ok (.ireturn, 1) := by decide +kernel
theorem dX9_part_88 : decode cX9_part 88 = .ok (.aload_n 0, 1) := by decide +kernel
theorem dX9_part_89 : decode cX9_part 89 = .ok (.getfield 12, 3) := by decide +kernel
theorem dX9_part_92 : decode cX9_part 92 = .ok (.getfield 92, 3) := by decide +kernel
theorem dX9_part_95 : decode cX9_part 95 = .ok (.iload_n 1, 1) := by decide +kernel
theorem dX9_part_96 : decode cX9_part 96 = .ok (.invokevirtual 193, 3) := by decide +kernel
theorem dX9_part_99 : decode cX9_part 99 = .ok (.ireturn, 1) := by decide +kernel
theorem dX9_part_100 : decode cX9_part 100 = .ok (.aload_n 0, 1) := by decide +kernel
theorem dX9_part_101 : decode cX9_part 101 = .ok (.getfield 12, 3) := by decide +kernel
theorem dX9_part_104 : decode cX9_part 104 = .ok (.getfield 92, 3) := by decide +kernel
theorem dX9_part_107 : decode cX9_part 107 = .ok (.iload_n 1, 1) := by decide +kernel
theorem dX9_part_108 : decode cX9_part 108 = .ok (.invokevirtual 196, 3) := by decide +kernel
theorem dX9_part_111 : decode cX9_part 111 = .ok (.ireturn, 1) := by decide +kernel
theorem dX9_part_112 : decode cX9_part 112 = .ok (.aload_n 0, 1) := by decide +kernel
theorem dX9_part_113 : decode cX9_part 113 = .ok (.getfield 12, 3) := by decide +kernel
theorem dX9_part_116 : decode cX9_part 116 = .ok (.getfield 113, 3) := by decide +kernel
theorem dX9_part_119 : decode cX9_part 119 = .ok (.iload_n 1, 1) := by decide +kernel
theorem dX9_part_120 : decode cX9_part 120 = .ok (.invokevirtual 196, 3) := by decide +kernel
theorem dX9_part_123 : decode cX9_part 123 = .ok (.ireturn, 1) := by decide +kernel
theorem dX9_part_124 : decode cX9_part 124 = .ok (.aload_n 0, 1) := by decide +kernel
theorem dX9_part_125 : decode cX9_part 125 = .ok (.getfield 12, 3) := by decide +kernel
theorem dX9_part_128 : decode cX9_part 128 = .ok (.getfield 136, 3) := by decide +kernel
theorem dX9_part_131 : decode cX9_part 131 = .ok (.iload_n 1, 1) := by decide +kernel
theorem dX9_part_132 : decode cX9_part 132 = .ok (.invokevirtual 199, 3) := by decide +kernel
theorem dX9_part_135 : decode cX9_part 135 = .ok (.ireturn, 1) := by decide +kernel
theorem dX9_weight_0 : decode cX9_weight 0 = .ok (.aload_n 0, 1) := by decide +kernel
theorem dX9_weight_1 : decode cX9_weight 1 = .ok (.iload_n 1, 1) := by decide +kernel
theorem dX9_weight_2 : decode cX9_weight 2 = .ok (.invokevirtual 79, 3) := by decide +kernel
theorem dX9_weight_5 : decode cX9_weight 5 = .ok (.iload_n 2, 1) := by decide +kernel
theorem dX9_weight_6 : decode cX9_weight 6 = .ok (.invokestatic 86, 3) := by decide +kernel
theorem dX9_weight_9 : decode cX9_weight 9 = .ok (.iload_n 3, 1) := by decide +kernel
theorem dX9_weight_10 : decode cX9_weight 10 = .ok (.ifCond .eq 18, 3) := by decide +kernel
theorem dX9_weight_13 : decode cX9_weight 13 = .ok (.aload_n 0, 1) := by decide +kernel
theorem dX9_weight_14 : decode cX9_weight 14 = .ok (.getfield 12, 3) := by decide +kernel
theorem dX9_weight_17 : decode cX9_weight 17 = .ok (.getfield 113, 3) := by decide +kernel
theorem dX9_weight_20 : decode cX9_weight 20 = .ok (.iload_n 1, 1) := by decide +kernel
theorem dX9_weight_21 : decode cX9_weight 21 = .ok (.iload_n 2, 1) := by decide +kernel
theorem dX9_weight_22 : decode cX9_weight 22 = .ok (.invokevirtual 96, 3) := by decide +kernel
theorem dX9_weight_25 : decode cX9_weight 25 = .ok (.goto 15, 3) := by decide +kernel
theorem dX9_weight_28 : decode cX9_weight 28 = .ok (.aload_n 0, 1) := by decide +kernel
theorem dX9_weight_29 : decode cX9_weight 29 = .ok (.getfield 12, 3) := by decide +kernel
theorem dX9_weight_32 : decode cX9_weight 32 = .ok (.getfield 92, 3) := by decide +kernel
theorem dX9_weight_35 : decode cX9_weight 35 = .ok (.iload_n 1, 1) := by decide +kernel
theorem dX9_weight_36 : decode cX9_weight 36 = .ok (.iload_n 2, 1) := by decide +kernel
theorem dX9_weight_37 : decode cX9_weight 37 = .ok (.invokevirtual 96, 3) := by decide +kernel
theorem dX9_weight_40 : decode cX9_weight 40 = .ok (.ireturn, 1) := by decide +kernel
theorem dX9_ways_0 : decode cX9_ways 0 = .ok (.iload_n 1, 1) := by decide +kernel
theorem dX9_ways_1 : decode cX9_ways 1 = .ok (.iconst 0, 1) := by decide +kernel
theorem dX9_ways_2 : decode cX9_ways 2 = .ok (.bipush 99, 2) := by decide +kernel
theorem dX9_ways_4 : decode cX9_ways 4 = .ok (.invokestatic 89, 3) := by decide +kernel
theorem dX9_ways_7 : decode cX9_ways 7 = .ok (.aload_n 0, 1) := by decide +kernel
theorem dX9_ways_8 : decode cX9_ways 8 = .ok (.getfield 33, 3) := by decide +kernel
theorem dX9_ways_11 : decode cX9_ways 11 = .ok (.aload_n 0, 1) := by decide +kernel
theorem dX9_ways_12 : decode cX9_ways 12 = .ok (.getfield 12, 3) := by decide +kernel
theorem dX9_ways_15 : decode cX9_ways 15 = .ok (.iconst (-1), 1) := by decide +kernel
theorem dX9_ways_16 : decode cX9_ways 16 = .ok (.invokevirtual 202, 3) := by decide +kernel
theorem dX9_ways_19 : decode cX9_ways 19 = .ok (.iload_n 2, 1) := by decide +kernel
theorem dX9_ways_20 : decode cX9_ways 20 = .ok (.ifCond .eq 14, 3) := by decide +kernel
theorem dX9_ways_23 : decode cX9_ways 23 = .ok (.aload_n 0, 1) := by decide +kernel
theorem dX9_ways_24 : decode cX9_ways 24 = .ok (.getfield 33, 3) := by decide +kernel
theorem dX9_ways_27 : decode cX9_ways 27 = .ok (.iload_n 1, 1) := by decide +kernel
theorem dX9_ways_28 : decode cX9_ways 28 = .ok (.invokevirtual 206, 3) := by decide +kernel
theorem dX9_ways_31 : decode cX9_ways 31 = .ok (.goto 11, 3) := by decide +kernel
theorem dX9_ways_34 : decode cX9_ways 34 = .ok (.aload_n 0, 1) := by decide +kernel
theorem dX9_ways_35 : decode cX9_ways 35 = .ok (.getfield 33, 3) := by decide +kernel
theorem dX9_ways_38 : decode cX9_ways 38 = .ok (.iload_n 1, 1) := by decide +kernel
theorem dX9_ways_39 : decode cX9_ways 39 = .ok (.invokevirtual 210, 3) := by decide +kernel
theorem dX9_ways_42 : decode cX9_ways 42 = .ok (.lreturn, 1) := by decide +kernel
theorem dX9_likeliest_0 : decode cX9_likeliest 0 = .ok (.aload_n 0, 1) := by decide +kernel
theorem dX9_likeliest_1 : decode cX9_likeliest 1 = .ok (.iload_n 1, 1) := by decide +kernel
theorem dX9_likeliest_2 : decode cX9_likeliest 2 = .ok (.invokevirtual 79, 3) := by decide +kernel
theorem dX9_likeliest_5 : decode cX9_likeliest 5 = .ok (.aload_n 0, 1) := by decide +kernel
theorem dX9_likeliest_6 : decode cX9_likeliest 6 = .ok (.getfield 40, 3) := by decide +kernel
theorem dX9_likeliest_9 : decode cX9_likeliest 9 = .ok (.aload_n 0, 1) := by decide +kernel
theorem dX9_likeliest_10 : decode cX9_likeliest 10 = .ok (.getfield 12, 3) := by decide +kernel
theorem dX9_likeliest_13 : decode cX9_likeliest 13 = .ok (.invokevirtual 213, 3) := by decide +kernel
theorem dX9_likeliest_16 : decode cX9_likeliest 16 = .ok (.aload_n 0, 1) := by decide +kernel
theorem dX9_likeliest_17 : decode cX9_likeliest 17 = .ok (.getfield 40, 3) := by decide +kernel
theorem dX9_likeliest_20 : decode cX9_likeliest 20 = .ok (.aload_n 0, 1) := by decide +kernel
theorem dX9_likeliest_21 : decode cX9_likeliest 21 = .ok (.getfield 12, 3) := by decide +kernel
theorem dX9_likeliest_24 : decode cX9_likeliest 24 = .ok (.iload_n 1, 1) := by decide +kernel
theorem dX9_likeliest_25 : decode cX9_likeliest 25 = .ok (.invokevirtual 215, 3) := by decide +kernel
theorem dX9_likeliest_28 : decode cX9_likeliest 28 = .ok (.ireturn, 1) := by decide +kernel
theorem dX9_count_0 : decode cX9_count 0 = .ok (.iload_n 1, 1) := by decide +kernel
theorem dX9_count_1 : decode cX9_count 1 = .ok (.iconst 0, 1) := by decide +kernel
theorem dX9_count_2 : decode cX9_count 2 = .ok (.bipush 8, 2) := by decide +kernel
theorem dX9_count_4 : decode cX9_count 4 = .ok (.invokestatic 89, 3) := by decide +kernel
theorem dX9_count_7 : decode cX9_count 7 = .ok (.iload_n 1, 1) := by decide +kernel
theorem dX9_count_8 : decode cX9_count 8 = .ok (.tableswitch 136 0 7 #[48, 56, 64, 72, 83, 94, 102, 110], 48) := by decide +kernel
theorem dX9_count_56 : decode cX9_count 56 = .ok (.aload_n 0, 1) := by decide +kernel
theorem dX9_count_57 : decode cX9_count 57 = .ok (.getfield 12, 3) := by decide +kernel
theorem dX9_count_60 : decode cX9_count 60 = .ok (.getfield 58, 3) := by decide +kernel
theorem dX9_count_63 : decode cX9_count 63 = .ok (.ireturn, 1) := by decide +kernel
theorem dX9_count_64 : decode cX9_count 64 = .ok (.aload_n 0, 1) := by decide +kernel
theorem dX9_count_65 : decode cX9_count 65 = .ok (.getfield 12, 3) := by decide +kernel
theorem dX9_count_68 : decode cX9_count 68 = .ok (.getfield 125, 3) := by decide +kernel
theorem dX9_count_71 : decode cX9_count 71 = .ok (.ireturn, 1) := by decide +kernel
theorem dX9_count_72 : decode cX9_count 72 = .ok (.aload_n 0, 1) := by decide +kernel
theorem dX9_count_73 : decode cX9_count 73 = .ok (.getfield 12, 3) := by decide +kernel
end
section
theorem dX9_count_76 : decode cX9_count 76 = .ok (.getfield 133, 3) := by decide +kernel
theorem dX9_count_79 : decode cX9_count 79 = .ok (.ireturn, 1) := by decide +kernel
theorem dX9_count_80 : decode cX9_count 80 = .ok (.aload_n 0, 1) := by decide +kernel
theorem dX9_count_81 : decode cX9_count 81 = .ok (.getfield 12, 3) := by decide +kernel
theorem dX9_count_84 : decode cX9_count 84 = .ok (.getfield 136, 3) := by decide +kernel
theorem dX9_count_87 : decode cX9_count 87 = .ok (.getfield 140, 3) := by decide +kernel
theorem dX9_count_90 : decode cX9_count 90 = .ok (.ireturn, 1) := by decide +kernel
theorem dX9_count_91 : decode cX9_count 91 = .ok (.aload_n 0, 1) := by decide +kernel
theorem dX9_count_92 : decode cX9_count 92 = .ok (.getfield 12, 3) := by decide +kernel
theorem dX9_count_95 : decode cX9_count 95 = .ok (.getfield 136, 3) := by decide +kernel
theorem dX9_count_98 : decode cX9_count 98 = .ok (.getfield 147, 3) := by decide +kernel
theorem dX9_count_101 : decode cX9_count 101 = .ok (.ireturn, 1) := by decide +kernel
theorem dX9_count_102 : decode cX9_count 102 = .ok (.aload_n 0, 1) := by decide +kernel
theorem dX9_count_103 : decode cX9_count 103 = .ok (.getfield 12, 3) := by decide +kernel
theorem dX9_count_106 : decode cX9_count 106 = .ok (.invokevirtual 219, 3) := by decide +kernel
theorem dX9_count_109 : decode cX9_count 109 = .ok (.ireturn, 1) := by decide +kernel
theorem dX9_count_110 : decode cX9_count 110 = .ok (.aload_n 0, 1) := by decide +kernel
theorem dX9_count_111 : decode cX9_count 111 = .ok (.getfield 12, 3) := by decide +kernel
theorem dX9_count_114 : decode cX9_count 114 = .ok (.invokevirtual 222, 3) := by decide +kernel
theorem dX9_count_117 : decode cX9_count 117 = .ok (.ireturn, 1) := by decide +kernel
theorem dX9_count_118 : decode cX9_count 118 = .ok (.aload_n 0, 1) := by decide +kernel
theorem dX9_count_119 : decode cX9_count 119 = .ok (.getfield 40, 3) := by decide +kernel
theorem dX9_count_122 : decode cX9_count 122 = .ok (.aload_n 0, 1) := by decide +kernel
theorem dX9_count_123 : decode cX9_count 123 = .ok (.getfield 12, 3) := by decide +kernel
theorem dX9_count_126 : decode cX9_count 126 = .ok (.invokevirtual 213, 3) := by decide +kernel
theorem dX9_count_129 : decode cX9_count 129 = .ok (.aload_n 0, 1) := by decide +kernel
theorem dX9_count_130 : decode cX9_count 130 = .ok (.getfield 40, 3) := by decide +kernel
theorem dX9_count_133 : decode cX9_count 133 = .ok (.aload_n 0, 1) := by decide +kernel
theorem dX9_count_134 : decode cX9_count 134 = .ok (.getfield 12, 3) := by decide +kernel
theorem dX9_count_137 : decode cX9_count 137 = .ok (.getfield 125, 3) := by decide +kernel
theorem dX9_count_140 : decode cX9_count 140 = .ok (.invokevirtual 225, 3) := by decide +kernel
theorem dX9_count_143 : decode cX9_count 143 = .ok (.ireturn, 1) := by decide +kernel
theorem dX9_count_144 : decode cX9_count 144 = .ok (.aload_n 0, 1) := by decide +kernel
theorem dX9_count_145 : decode cX9_count 145 = .ok (.getfield 19, 3) := by decide +kernel
theorem dX9_count_148 : decode cX9_count 148 = .ok (.getfield 184, 3) := by decide +kernel
theorem dX9_count_151 : decode cX9_count 151 = .ok (.ireturn, 1) := by decide +kernel
theorem dX9_measure_0 : decode cX9_measure 0 = .ok (.iload_n 1, 1) := by decide +kernel
theorem dX9_measure_1 : decode cX9_measure 1 = .ok (.iconst 0, 1) := by decide +kernel
theorem dX9_measure_2 : decode cX9_measure 2 = .ok (.bipush 6, 2) := by decide +kernel
theorem dX9_measure_4 : decode cX9_measure 4 = .ok (.invokestatic 89, 3) := by decide +kernel
theorem dX9_measure_7 : decode cX9_measure 7 = .ok (.aload_n 0, 1) := by decide +kernel
theorem dX9_measure_8 : decode cX9_measure 8 = .ok (.getfield 12, 3) := by decide +kernel
theorem dX9_measure_11 : decode cX9_measure 11 = .ok (.getfield 136, 3) := by decide +kernel
theorem dX9_measure_14 : decode cX9_measure 14 = .ok (.astore_n 2, 1) := by decide +kernel
theorem dX9_measure_15 : decode cX9_measure 15 = .ok (.iload_n 1, 1) := by decide +kernel
theorem dX9_measure_16 : decode cX9_measure 16 = .ok (.tableswitch 91 0 5 #[40, 53, 62, 72, 81, 86], 40) := by decide +kernel
theorem dX9_measure_56 : decode cX9_measure 56 = .ok (.aload_n 0, 1) := by decide +kernel
theorem dX9_measure_57 : decode cX9_measure 57 = .ok (.aload_n 0, 1) := by decide +kernel
theorem dX9_measure_58 : decode cX9_measure 58 = .ok (.getfield 12, 3) := by decide +kernel
theorem dX9_measure_61 : decode cX9_measure 61 = .ok (.getfield 125, 3) := by decide +kernel
theorem dX9_measure_64 : decode cX9_measure 64 = .ok (.iconst (-1), 1) := by decide +kernel
theorem dX9_measure_65 : decode cX9_measure 65 = .ok (.invokevirtual 228, 3) := by decide +kernel
theorem dX9_measure_68 : decode cX9_measure 68 = .ok (.dreturn, 1) := by decide +kernel
theorem dX9_measure_69 : decode cX9_measure 69 = .ok (.aload_n 2, 1) := by decide +kernel
theorem dX9_measure_70 : decode cX9_measure 70 = .ok (.aload_n 2, 1) := by decide +kernel
theorem dX9_measure_71 : decode cX9_measure 71 = .ok (.getfield 232, 3) := by decide +kernel
theorem dX9_measure_74 : decode cX9_measure 74 = .ok (.invokevirtual 236, 3) := by decide +kernel
theorem dX9_measure_77 : decode cX9_measure 77 = .ok (.dreturn, 1) := by decide +kernel
theorem dX9_measure_78 : decode cX9_measure 78 = .ok (.aload_n 2, 1) := by decide +kernel
theorem dX9_measure_79 : decode cX9_measure 79 = .ok (.aload_n 2, 1) := by decide +kernel
theorem dX9_measure_80 : decode cX9_measure 80 = .ok (.getfield 147, 3) := by decide +kernel
theorem dX9_measure_83 : decode cX9_measure 83 = .ok (.i2d, 1) := by decide +kernel
theorem dX9_measure_84 : decode cX9_measure 84 = .ok (.invokevirtual 236, 3) := by decide +kernel
theorem dX9_measure_87 : decode cX9_measure 87 = .ok (.dreturn, 1) := by decide +kernel
theorem dX9_measure_88 : decode cX9_measure 88 = .ok (.aload_n 2, 1) := by decide +kernel
theorem dX9_measure_89 : decode cX9_measure 89 = .ok (.aload_n 2, 1) := by decide +kernel
theorem dX9_measure_90 : decode cX9_measure 90 = .ok (.getfield 240, 3) := by decide +kernel
theorem dX9_measure_93 : decode cX9_measure 93 = .ok (.invokevirtual 236, 3) := by decide +kernel
theorem dX9_measure_96 : decode cX9_measure 96 = .ok (.dreturn, 1) := by decide +kernel
theorem dX9_measure_97 : decode cX9_measure 97 = .ok (.aload_n 2, 1) := by decide +kernel
theorem dX9_measure_98 : decode cX9_measure 98 = .ok (.invokevirtual 243, 3) := by decide +kernel
theorem dX9_measure_101 : decode cX9_measure 101 = .ok (.dreturn, 1) := by decide +kernel
theorem dX9_measure_102 : decode cX9_measure 102 = .ok (.aload_n 2, 1) := by decide +kernel
theorem dX9_measure_103 : decode cX9_measure 103 = .ok (.getfield 247, 3) := by decide +kernel
theorem dX9_measure_106 : decode cX9_measure 106 = .ok (.dreturn, 1) := by decide +kernel
theorem dX9_measure_107 : decode cX9_measure 107 = .ok (.aload_n 2, 1) := by decide +kernel
theorem dX9_measure_108 : decode cX9_measure 108 = .ok (.aload_n 2, 1) := by decide +kernel
theorem dX9_measure_109 : decode cX9_measure 109 = .ok (.getfield 232, 3) := by decide +kernel
theorem dX9_measure_112 : decode cX9_measure 112 = .ok (.invokevirtual 236, 3) := by decide +kernel
theorem dX9_measure_115 : decode cX9_measure 115 = .ok (.aload_n 0, 1) := by decide +kernel
theorem dX9_measure_116 : decode cX9_measure 116 = .ok (.aload_n 0, 1) := by decide +kernel
theorem dX9_measure_117 : decode cX9_measure 117 = .ok (.getfield 12, 3) := by decide +kernel
theorem dX9_measure_120 : decode cX9_measure 120 = .ok (.getfield 125, 3) := by decide +kernel
theorem dX9_measure_123 : decode cX9_measure 123 = .ok (.iconst (-1), 1) := by decide +kernel
theorem dX9_measure_124 : decode cX9_measure 124 = .ok (.invokevirtual 228, 3) := by decide +kernel
theorem dX9_measure_127 : decode cX9_measure 127 = .ok (.dsub, 1) := by decide +kernel
theorem dX9_measure_128 : decode cX9_measure 128 = .ok (.dreturn, 1) := by decide +kernel
theorem dX9_ifLimit_0 : decode cX9_ifLimit 0 = .ok (.iload_n 1, 1) := by decide +kernel
theorem dX9_ifLimit_1 : decode cX9_ifLimit 1 = .ok (.iconst 0, 1) := by decide +kernel
theorem dX9_ifLimit_2 : decode cX9_ifLimit 2 = .ok (.bipush 99, 2) := by decide +kernel
theorem dX9_ifLimit_4 : decode cX9_ifLimit 4 = .ok (.invokestatic 89, 3) := by decide +kernel
theorem dX9_ifLimit_7 : decode cX9_ifLimit 7 = .ok (.aload_n 0, 1) := by decide +kernel
theorem dX9_ifLimit_8 : decode cX9_ifLimit 8 = .ok (.iload_n 1, 1) := by decide +kernel
theorem dX9_ifLimit_9 : decode cX9_ifLimit 9 = .ok (.iconst (-1), 1) := by decide +kernel
theorem dX9_ifLimit_10 : decode cX9_ifLimit 10 = .ok (.invokevirtual 228, 3) := by decide +kernel
theorem dX9_ifLimit_13 : decode cX9_ifLimit 13 = .ok (.dreturn, 1) := by decide +kernel
theorem dX9_limitFor_0 : decode cX9_limitFor 0 = .ok (.iload_n 1, 1) := by decide +kernel
theorem dX9_limitFor_1 : decode cX9_limitFor 1 = .ok (.iconst 0, 1) := by decide +kernel
theorem dX9_limitFor_2 : decode cX9_limitFor 2 = .ok (.sipush 1000, 3) := by decide +kernel
theorem dX9_limitFor_5 : decode cX9_limitFor 5 = .ok (.invokestatic 89, 3) := by decide +kernel
theorem dX9_limitFor_8 : decode cX9_limitFor 8 = .ok (.aload_n 0, 1) := by decide +kernel
theorem dX9_limitFor_9 : decode cX9_limitFor 9 = .ok (.getfield 33, 3) := by decide +kernel
theorem dX9_limitFor_12 : decode cX9_limitFor 12 = .ok (.aload_n 0, 1) := by decide +kernel
theorem dX9_limitFor_13 : decode cX9_limitFor 13 = .ok (.getfield 12, 3) := by decide +kernel
theorem dX9_limitFor_16 : decode cX9_limitFor 16 = .ok (.iconst (-1), 1) := by decide +kernel
theorem dX9_limitFor_17 : decode cX9_limitFor 17 = .ok (.invokevirtual 202, 3) := by decide +kernel
theorem dX9_limitFor_20 : decode cX9_limitFor 20 = .ok (.aload_n 0, 1) := by decide +kernel
theorem dX9_limitFor_21 : decode cX9_limitFor 21 = .ok (.getfield 33, 3) := by decide +kernel
theorem dX9_limitFor_24 : decode cX9_limitFor 24 = .ok (.iconst 0, 1) := by decide +kernel
theorem dX9_limitFor_25 : decode cX9_limitFor 25 = .ok (.invokevirtual 206, 3) := by decide +kernel
theorem dX9_limitFor_28 : decode cX9_limitFor 28 = .ok (.iload_n 1, 1) := by decide +kernel
theorem dX9_limitFor_29 : decode cX9_limitFor 29 = .ok (.i2l, 1) := by decide +kernel
theorem dX9_limitFor_30 : decode cX9_limitFor 30 = .ok (.lmul, 1) := by decide +kernel
theorem dX9_limitFor_31 : decode cX9_limitFor 31 = .ok (.lstore_n 2, 1) := by decide +kernel
theorem dX9_limitFor_32 : decode cX9_limitFor 32 = .ok (.iconst 0, 1) := by decide +kernel
theorem dX9_limitFor_33 : decode cX9_limitFor 33 = .ok (.istore 4, 2) := by decide +kernel
theorem dX9_limitFor_35 : decode cX9_limitFor 35 = .ok (.iload 4, 2) := by decide +kernel
theorem dX9_limitFor_37 : decode cX9_limitFor 37 = .ok (.bipush 99, 2) := by decide +kernel
theorem dX9_limitFor_39 : decode cX9_limitFor 39 = .ok (.if_icmp .ge 30, 3) := by decide +kernel
theorem dX9_limitFor_42 : decode cX9_limitFor 42 = .ok (.aload_n 0, 1) := by decide +kernel
theorem dX9_limitFor_43 : decode cX9_limitFor 43 = .ok (.getfield 33, 3) := by decide +kernel
theorem dX9_limitFor_46 : decode cX9_limitFor 46 = .ok (.iload 4, 2) := by decide +kernel
theorem dX9_limitFor_48 : decode cX9_limitFor 48 = .ok (.invokevirtual 206, 3) := by decide +kernel
theorem dX9_limitFor_51 : decode cX9_limitFor 51 = .ok (.ldc2_w 250, 3) := by decide +kernel
theorem dX9_limitFor_54 : decode cX9_limitFor 54 = .ok (.lmul, 1) := by decide +kernel
theorem dX9_limitFor_55 : decode cX9_limitFor 55 = .ok (.lload_n 2, 1) := by decide +kernel
theorem dX9_limitFor_56 : decode cX9_limitFor 56 = .ok (.lcmp, 1) := by decide +kernel
theorem dX9_limitFor_57 : decode cX9_limitFor 57 = .ok (.ifCond .gt 6, 3) := by decide +kernel
theorem dX9_limitFor_60 : decode cX9_limitFor 60 = .ok (.iload 4, 2) := by decide +kernel
theorem dX9_limitFor_62 : decode cX9_limitFor 62 = .ok (.ireturn, 1) := by decide +kernel
theorem dX9_limitFor_63 : decode cX9_limitFor 63 = .ok (.iinc 4 1, 3) := by decide +kernel
theorem dX9_limitFor_66 : decode cX9_limitFor 66 = .ok (.goto (-31), 3) := by decide +kernel
theorem dX9_limitFor_69 : decode cX9_limitFor 69 = .ok (.bipush 99, 2) := by decide +kernel
theorem dX9_limitFor_71 : decode cX9_limitFor 71 = .ok (.ireturn, 1) := by decide +kernel
theorem dX9_greatest_0 : decode cX9_greatest 0 = .ok (.aload_n 0, 1) := by decide +kernel
theorem dX9_greatest_1 : decode cX9_greatest 1 = .ok (.getfield 47, 3) := by decide +kernel
theorem dX9_greatest_4 : decode cX9_greatest 4 = .ok (.aload_n 0, 1) := by decide +kernel
theorem dX9_greatest_5 : decode cX9_greatest 5 = .ok (.getfield 12, 3) := by decide +kernel
theorem dX9_greatest_8 : decode cX9_greatest 8 = .ok (.invokevirtual 252, 3) := by decide +kernel
theorem dX9_greatest_11 : decode cX9_greatest 11 = .ok (.aload_n 0, 1) := by decide +kernel
theorem dX9_greatest_12 : decode cX9_greatest 12 = .ok (.getfield 47, 3) := by decide +kernel
theorem dX9_greatest_15 : decode cX9_greatest 15 = .ok (.iload_n 1, 1) := by decide +kernel
theorem dX9_greatest_16 : decode cX9_greatest 16 = .ok (.ifCond .eq 13, 3) := by decide +kernel
theorem dX9_greatest_19 : decode cX9_greatest 19 = .ok (.aload_n 0, 1) := by decide +kernel
theorem dX9_greatest_20 : decode cX9_greatest 20 = .ok (.getfield 12, 3) := by decide +kernel
theorem dX9_greatest_23 : decode cX9_greatest 23 = .ok (.getfield 125, 3) := by decide +kernel
theorem dX9_greatest_26 : decode cX9_greatest 26 = .ok (.goto 4, 3) := by decide +kernel
theorem dX9_greatest_29 : decode cX9_greatest 29 = .ok (.iconst 0, 1) := by decide +kernel
theorem dX9_greatest_30 : decode cX9_greatest 30 = .ok (.invokevirtual 253, 3) := by decide +kernel
theorem dX9_greatest_33 : decode cX9_greatest 33 = .ok (.dreturn, 1) := by decide +kernel
theorem dX9_slightest_0 : decode cX9_slightest 0 = .ok (.iconst (-1), 1) := by decide +kernel
theorem dX9_slightest_1 : decode cX9_slightest 1 = .ok (.istore_n 1, 1) := by decide +kernel
theorem dX9_slightest_2 : decode cX9_slightest 2 = .ok (.ldc2_w 257, 3) := by decide +kernel
theorem dX9_slightest_5 : decode cX9_slightest 5 = .ok (.dstore_n 2, 1) := by decide +kernel
theorem dX9_slightest_6 : decode cX9_slightest 6 = .ok (.iconst 0, 1) := by decide +kernel
theorem dX9_slightest_7 : decode cX9_slightest 7 = .ok (.istore 4, 2) := by decide +kernel
theorem dX9_slightest_9 : decode cX9_slightest 9 = .ok (.iload 4, 2) := by decide +kernel
theorem dX9_slightest_11 : decode cX9_slightest 11 = .ok (.aload_n 0, 1) := by decide +kernel
theorem dX9_slightest_12 : decode cX9_slightest 12 = .ok (.getfield 12, 3) := by decide +kernel
theorem dX9_slightest_15 : decode cX9_slightest 15 = .ok (.getfield 58, 3) := by decide +kernel
theorem dX9_slightest_18 : decode cX9_slightest 18 = .ok (.if_icmp .ge 37, 3) := by decide +kernel
theorem dX9_slightest_21 : decode cX9_slightest 21 = .ok (.aload_n 0, 1) := by decide +kernel
theorem dX9_slightest_22 : decode cX9_slightest 22 = .ok (.aload_n 0, 1) := by decide +kernel
theorem dX9_slightest_23 : decode cX9_slightest 23 = .ok (.getfield 12, 3) := by decide +kernel
theorem dX9_slightest_26 : decode cX9_slightest 26 = .ok (.getfield 125, 3) := by decide +kernel
theorem dX9_slightest_29 : decode cX9_slightest 29 = .ok (.iload 4, 2) := by decide +kernel
theorem dX9_slightest_31 : decode cX9_slightest 31 = .ok (.invokevirtual 228, 3) := by decide +kernel
theorem dX9_slightest_34 : decode cX9_slightest 34 = .ok (.dstore 5, 2) := by decide +kernel
theorem dX9_slightest_36 : decode cX9_slightest 36 = .ok (.dload 5, 2) := by decide +kernel
theorem dX9_slightest_38 : decode cX9_slightest 38 = .ok (.dload_n 2, 1) := by decide +kernel
theorem dX9_slightest_39 : decode cX9_slightest 39 = .ok (.dcmp .l, 1) := by decide +kernel
theorem dX9_slightest_40 : decode cX9_slightest 40 = .ok (.ifCond .le 9, 3) := by decide +kernel
theorem dX9_slightest_43 : decode cX9_slightest 43 = .ok (.dload 5, 2) := by decide +kernel
theorem dX9_slightest_45 : decode cX9_slightest 45 = .ok (.dstore_n 2, 1) := by decide +kernel
theorem dX9_slightest_46 : decode cX9_slightest 46 = .ok (.iload 4, 2) := by decide +kernel
theorem dX9_slightest_48 : decode cX9_slightest 48 = .ok (.istore_n 1, 1) := by decide +kernel
theorem dX9_slightest_49 : decode cX9_slightest 49 = .ok (.iinc 4 1, 3) := by decide +kernel
theorem dX9_slightest_52 : decode cX9_slightest 52 = .ok (.goto (-43), 3) := by decide +kernel
theorem dX9_slightest_55 : decode cX9_slightest 55 = .ok (.iload_n 1, 1) := by decide +kernel
theorem dX9_slightest_56 : decode cX9_slightest 56 = .ok (.ireturn, 1) := by decide +kernel
theorem dX9_digest_0 : decode cX9_digest 0 = .ok (.ldc2_w 259, 3) := by decide +kernel
theorem dX9_digest_3 : decode cX9_digest 3 = .ok (.lstore_n 1, 1) := by decide +kernel
theorem dX9_digest_4 : decode cX9_digest 4 = .ok (.iconst 0, 1) := by decide +kernel
theorem dX9_digest_5 : decode cX9_digest 5 = .ok (.istore_n 3, 1) := by decide +kernel
theorem dX9_digest_6 : decode cX9_digest 6 = .ok (.iload_n 3, 1) := by decide +kernel
theorem dX9_digest_7 : decode cX9_digest 7 = .ok (.bipush 9, 2) := by decide +kernel
theorem dX9_digest_9 : decode cX9_digest 9 = .ok (.if_icmp .ge 20, 3) := by decide +kernel
theorem dX9_digest_12 : decode cX9_digest 12 = .ok (.lload_n 1, 1) := by decide +kernel
theorem dX9_digest_13 : decode cX9_digest 13 = .ok (.aload_n 0, 1) := by decide +kernel
theorem dX9_digest_14 : decode cX9_digest 14 = .ok (.iload_n 3, 1) := by decide +kernel
theorem dX9_digest_15 : decode cX9_digest 15 = .ok (.invokevirtual 261, 3) := by decide +kernel
theorem dX9_digest_18 : decode cX9_digest 18 = .ok (.i2l, 1) := by decide +kernel
theorem dX9_digest_19 : decode cX9_digest 19 = .ok (.invokestatic 264, 3) := by decide +kernel
theorem dX9_digest_22 : decode cX9_digest 22 = .ok (.lstore_n 1, 1) := by decide +kernel
theorem dX9_digest_23 : decode cX9_digest 23 = .ok (.iinc 3 1, 3) := by decide +kernel
theorem dX9_digest_26 : decode cX9_digest 26 = .ok (.goto (-20), 3) := by decide +kernel
theorem dX9_digest_29 : decode cX9_digest 29 = .ok (.iconst 0, 1) := by decide +kernel
theorem dX9_digest_30 : decode cX9_digest 30 = .ok (.istore_n 3, 1) := by decide +kernel
theorem dX9_digest_31 : decode cX9_digest 31 = .ok (.iload_n 3, 1) := by decide +kernel
theorem dX9_digest_32 : decode cX9_digest 32 = .ok (.aload_n 0, 1) := by decide +kernel
theorem dX9_digest_33 : decode cX9_digest 33 = .ok (.getfield 12, 3) := by decide +kernel
theorem dX9_digest_36 : decode cX9_digest 36 = .ok (.getfield 58, 3) := by decide +kernel
theorem dX9_digest_39 : decode cX9_digest 39 = .ok (.if_icmp .ge 16, 3) := by decide +kernel
theorem dX9_digest_42 : decode cX9_digest 42 = .ok (.aload_n 0, 1) := by decide +kernel
theorem dX9_digest_43 : decode cX9_digest 43 = .ok (.lload_n 1, 1) := by decide +kernel
theorem dX9_digest_44 : decode cX9_digest 44 = .ok (.iload_n 3, 1) := by decide +kernel
theorem dX9_digest_45 : decode cX9_digest 45 = .ok (.invokevirtual 268, 3) := by decide +kernel
theorem dX9_digest_48 : decode cX9_digest 48 = .ok (.lstore_n 1, 1) := by decide +kernel
theorem dX9_digest_49 : decode cX9_digest 49 = .ok (.iinc 3 1, 3) := by decide +kernel
theorem dX9_digest_52 : decode cX9_digest 52 = .ok (.goto (-21), 3) := by decide +kernel
theorem dX9_digest_55 : decode cX9_digest 55 = .ok (.iconst 0, 1) := by decide +kernel
theorem dX9_digest_56 : decode cX9_digest 56 = .ok (.istore_n 3, 1) := by decide +kernel
theorem dX9_digest_57 : decode cX9_digest 57 = .ok (.iload_n 3, 1) := by decide +kernel
theorem dX9_digest_58 : decode cX9_digest 58 = .ok (.bipush 10, 2) := by decide +kernel
theorem dX9_digest_60 : decode cX9_digest 60 = .ok (.if_icmp .gt 31, 3) := by decide +kernel
theorem dX9_digest_63 : decode cX9_digest 63 = .ok (.lload_n 1, 1) := by decide +kernel
theorem dX9_digest_64 : decode cX9_digest 64 = .ok (.aload_n 0, 1) := by decide +kernel
theorem dX9_digest_65 : decode cX9_digest 65 = .ok (.iload_n 3, 1) := by decide +kernel
theorem dX9_digest_66 : decode cX9_digest 66 = .ok (.iconst 0, 1) := by decide +kernel
theorem dX9_digest_67 : decode cX9_digest 67 = .ok (.invokevirtual 272, 3) := by decide +kernel
theorem dX9_digest_70 : decode cX9_digest 70 = .ok (.invokestatic 264, 3) := by decide +kernel
theorem dX9_digest_73 : decode cX9_digest 73 = .ok (.lstore_n 1, 1) := by decide +kernel
theorem dX9_digest_74 : decode cX9_digest 74 = .ok (.lload_n 1, 1) := by decide +kernel
theorem dX9_digest_75 : decode cX9_digest 75 = .ok (.aload_n 0, 1) := by decide +kernel
theorem dX9_digest_76 : decode cX9_digest 76 = .ok (.iload_n 3, 1) := by decide +kernel
theorem dX9_digest_77 : decode cX9_digest 77 = .ok (.iconst 1, 1) := by decide +kernel
theorem dX9_digest_78 : decode cX9_digest 78 = .ok (.invokevirtual 272, 3) := by decide +kernel
theorem dX9_digest_81 : decode cX9_digest 81 = .ok (.invokestatic 264, 3) := by decide +kernel
theorem dX9_digest_84 : decode cX9_digest 84 = .ok (.lstore_n 1, 1) := by decide +kernel
theorem dX9_digest_85 : decode cX9_digest 85 = .ok (.iinc 3 5, 3) := by decide +kernel
theorem dX9_digest_88 : decode cX9_digest 88 = .ok (.goto (-31), 3) := by decide +kernel
theorem dX9_digest_91 : decode cX9_digest 91 = .ok (.iconst 0, 1) := by decide +kernel
theorem dX9_digest_92 : decode cX9_digest 92 = .ok (.istore_n 3, 1) := by decide +kernel
theorem dX9_digest_93 : decode cX9_digest 93 = .ok (.iload_n 3, 1) := by decide +kernel
theorem dX9_digest_94 : decode cX9_digest 94 = .ok (.bipush 7, 2) := by decide +kernel
theorem dX9_digest_96 : decode cX9_digest 96 = .ok (.if_icmp .ge 22, 3) := by decide +kernel
theorem dX9_digest_99 : decode cX9_digest 99 = .ok (.lload_n 1, 1) := by decide +kernel
theorem dX9_digest_100 : decode cX9_digest 100 = .ok (.aload_n 0, 1) := by decide +kernel
theorem dX9_digest_101 : decode cX9_digest 101 = .ok (.iload_n 3, 1) := by decide +kernel
theorem dX9_digest_102 : decode cX9_digest 102 = .ok (.invokevirtual 276, 3) := by decide +kernel
theorem dX9_digest_105 : decode cX9_digest 105 = .ok (.invokestatic 279, 3) := by decide +kernel
theorem dX9_digest_108 : decode cX9_digest 108 = .ok (.invokestatic 264, 3) := by decide +kernel
theorem dX9_digest_111 : decode cX9_digest 111 = .ok (.lstore_n 1, 1) := by decide +kernel
theorem dX9_digest_112 : decode cX9_digest 112 = .ok (.iinc 3 1, 3) := by decide +kernel
theorem dX9_digest_115 : decode cX9_digest 115 = .ok (.goto (-22), 3) := by decide +kernel
theorem dX9_digest_118 : decode cX9_digest 118 = .ok (.lload_n 1, 1) := by decide +kernel
theorem dX9_digest_119 : decode cX9_digest 119 = .ok (.aload_n 0, 1) := by decide +kernel
theorem dX9_digest_120 : decode cX9_digest 120 = .ok (.iconst 5, 1) := by decide +kernel
theorem dX9_digest_121 : decode cX9_digest 121 = .ok (.invokevirtual 283, 3) := by decide +kernel
theorem dX9_digest_124 : decode cX9_digest 124 = .ok (.invokestatic 279, 3) := by decide +kernel
theorem dX9_digest_127 : decode cX9_digest 127 = .ok (.invokestatic 264, 3) := by decide +kernel
theorem dX9_digest_130 : decode cX9_digest 130 = .ok (.lstore_n 1, 1) := by decide +kernel
theorem dX9_digest_131 : decode cX9_digest 131 = .ok (.lload_n 1, 1) := by decide +kernel
theorem dX9_digest_132 : decode cX9_digest 132 = .ok (.aload_n 0, 1) := by decide +kernel
theorem dX9_digest_133 : decode cX9_digest 133 = .ok (.iconst 1, 1) := by decide +kernel
theorem dX9_digest_134 : decode cX9_digest 134 = .ok (.invokevirtual 286, 3) := by decide +kernel
theorem dX9_digest_137 : decode cX9_digest 137 = .ok (.invokestatic 279, 3) := by decide +kernel
theorem dX9_digest_140 : decode cX9_digest 140 = .ok (.invokestatic 264, 3) := by decide +kernel
theorem dX9_digest_143 : decode cX9_digest 143 = .ok (.lstore_n 1, 1) := by decide +kernel
theorem dX9_digest_144 : decode cX9_digest 144 = .ok (.lload_n 1, 1) := by decide +kernel
theorem dX9_digest_145 : decode cX9_digest 145 = .ok (.aload_n 0, 1) := by decide +kernel
theorem dX9_digest_146 : decode cX9_digest 146 = .ok (.bipush 100, 2) := by decide +kernel
theorem dX9_digest_148 : decode cX9_digest 148 = .ok (.invokevirtual 290, 3) := by decide +kernel
theorem dX9_digest_151 : decode cX9_digest 151 = .ok (.i2l, 1) := by decide +kernel
theorem dX9_digest_152 : decode cX9_digest 152 = .ok (.invokestatic 264, 3) := by decide +kernel
theorem dX9_digest_155 : decode cX9_digest 155 = .ok (.lstore_n 1, 1) := by decide +kernel
theorem dX9_digest_156 : decode cX9_digest 156 = .ok (.lload_n 1, 1) := by decide +kernel
theorem dX9_digest_157 : decode cX9_digest 157 = .ok (.aload_n 0, 1) := by decide +kernel
theorem dX9_digest_158 : decode cX9_digest 158 = .ok (.invokevirtual 293, 3) := by decide +kernel
theorem dX9_digest_161 : decode cX9_digest 161 = .ok (.i2l, 1) := by decide +kernel
theorem dX9_digest_162 : decode cX9_digest 162 = .ok (.invokestatic 264, 3) := by decide +kernel
theorem dX9_digest_165 : decode cX9_digest 165 = .ok (.lstore_n 1, 1) := by decide +kernel
theorem dX9_digest_166 : decode cX9_digest 166 = .ok (.lload_n 1, 1) := by decide +kernel
theorem dX9_digest_167 : decode cX9_digest 167 = .ok (.aload_n 0, 1) := by decide +kernel
theorem dX9_digest_168 : decode cX9_digest 168 = .ok (.getfield 26, 3) := by decide +kernel
theorem dX9_digest_171 : decode cX9_digest 171 = .ok (.getfield 156, 3) := by decide +kernel
theorem dX9_digest_174 : decode cX9_digest 174 = .ok (.i2l, 1) := by decide +kernel
theorem dX9_digest_175 : decode cX9_digest 175 = .ok (.invokestatic 264, 3) := by decide +kernel
theorem dX9_digest_178 : decode cX9_digest 178 = .ok (.lstore_n 1, 1) := by decide +kernel
theorem dX9_digest_179 : decode cX9_digest 179 = .ok (.iconst 0, 1) := by decide +kernel
theorem dX9_digest_180 : decode cX9_digest 180 = .ok (.istore_n 3, 1) := by decide +kernel
theorem dX9_digest_181 : decode cX9_digest 181 = .ok (.iload_n 3, 1) := by decide +kernel
theorem dX9_digest_182 : decode cX9_digest 182 = .ok (.aload_n 0, 1) := by decide +kernel
theorem dX9_digest_183 : decode cX9_digest 183 = .ok (.getfield 26, 3) := by decide +kernel
theorem dX9_digest_186 : decode cX9_digest 186 = .ok (.getfield 156, 3) := by decide +kernel
theorem dX9_digest_189 : decode cX9_digest 189 = .ok (.if_icmp .ge 23, 3) := by decide +kernel
theorem dX9_digest_192 : decode cX9_digest 192 = .ok (.lload_n 1, 1) := by decide +kernel
theorem dX9_digest_193 : decode cX9_digest 193 = .ok (.aload_n 0, 1) := by decide +kernel
theorem dX9_digest_194 : decode cX9_digest 194 = .ok (.getfield 26, 3) := by decide +kernel
theorem dX9_digest_197 : decode cX9_digest 197 = .ok (.iload_n 3, 1) := by decide +kernel
theorem dX9_digest_198 : decode cX9_digest 198 = .ok (.invokevirtual 296, 3) := by decide +kernel
theorem dX9_digest_201 : decode cX9_digest 201 = .ok (.i2l, 1) := by decide +kernel
theorem dX9_digest_202 : decode cX9_digest 202 = .ok (.invokestatic 264, 3) := by decide +kernel
theorem dX9_digest_205 : decode cX9_digest 205 = .ok (.lstore_n 1, 1) := by decide +kernel
theorem dX9_digest_206 : decode cX9_digest 206 = .ok (.iinc 3 1, 3) := by decide +kernel
theorem dX9_digest_209 : decode cX9_digest 209 = .ok (.goto (-28), 3) := by decide +kernel
theorem dX9_digest_212 : decode cX9_digest 212 = .ok (.lload_n 1, 1) := by decide +kernel
theorem dX9_digest_213 : decode cX9_digest 213 = .ok (.lreturn, 1) := by decide +kernel
theorem dX9_hashWithPart_0 : decode cX9_hashWithPart 0 = .ok (.lload_n 1, 1) := by decide +kernel
theorem dX9_hashWithPart_1 : decode cX9_hashWithPart 1 = .ok (.lstore 4, 2) := by decide +kernel
theorem dX9_hashWithPart_3 : decode cX9_hashWithPart 3 = .ok (.iconst 0, 1) := by decide +kernel
theorem dX9_hashWithPart_4 : decode cX9_hashWithPart 4 = .ok (.istore 6, 2) := by decide +kernel
theorem dX9_hashWithPart_6 : decode cX9_hashWithPart 6 = .ok (.iload 6, 2) := by decide +kernel
theorem dX9_hashWithPart_8 : decode cX9_hashWithPart 8 = .ok (.bipush 7, 2) := by decide +kernel
theorem dX9_hashWithPart_10 : decode cX9_hashWithPart 10 = .ok (.if_icmp .ge 24, 3) := by decide +kernel
theorem dX9_hashWithPart_13 : decode cX9_hashWithPart 13 = .ok (.lload 4, 2) := by decide +kernel
theorem dX9_hashWithPart_15 : decode cX9_hashWithPart 15 = .ok (.aload_n 0, 1) := by decide +kernel
theorem dX9_hashWithPart_16 : decode cX9_hashWithPart 16 = .ok (.iload_n 3, 1) := by decide +kernel
theorem dX9_hashWithPart_17 : decode cX9_hashWithPart 17 = .ok (.iload 6, 2) := by decide +kernel
theorem dX9_hashWithPart_19 : decode cX9_hashWithPart 19 = .ok (.invokevirtual 299, 3) := by decide +kernel
theorem dX9_hashWithPart_22 : decode cX9_hashWithPart 22 = .ok (.i2l, 1) := by decide +kernel
theorem dX9_hashWithPart_23 : decode cX9_hashWithPart 23 = .ok (.invokestatic 264, 3) := by decide +kernel
theorem dX9_hashWithPart_26 : decode cX9_hashWithPart 26 = .ok (.lstore 4, 2) := by decide +kernel
theorem dX9_hashWithPart_28 : decode cX9_hashWithPart 28 = .ok (.iinc 6 1, 3) := by decide +kernel
theorem dX9_hashWithPart_31 : decode cX9_hashWithPart 31 = .ok (.goto (-25), 3) := by decide +kernel
theorem dX9_hashWithPart_34 : decode cX9_hashWithPart 34 = .ok (.iconst 0, 1) := by decide +kernel
theorem dX9_hashWithPart_35 : decode cX9_hashWithPart 35 = .ok (.istore 6, 2) := by decide +kernel
theorem dX9_hashWithPart_37 : decode cX9_hashWithPart 37 = .ok (.iload 6, 2) := by decide +kernel
theorem dX9_hashWithPart_39 : decode cX9_hashWithPart 39 = .ok (.bipush 6, 2) := by decide +kernel
theorem dX9_hashWithPart_41 : decode cX9_hashWithPart 41 = .ok (.if_icmp .ge 30, 3) := by decide +kernel
theorem dX9_hashWithPart_44 : decode cX9_hashWithPart 44 = .ok (.lload 4, 2) := by decide +kernel
theorem dX9_hashWithPart_46 : decode cX9_hashWithPart 46 = .ok (.aload_n 0, 1) := by decide +kernel
theorem dX9_hashWithPart_47 : decode cX9_hashWithPart 47 = .ok (.getfield 12, 3) := by decide +kernel
theorem dX9_hashWithPart_50 : decode cX9_hashWithPart 50 = .ok (.getfield 92, 3) := by decide +kernel
theorem dX9_hashWithPart_53 : decode cX9_hashWithPart 53 = .ok (.iload_n 3, 1) := by decide +kernel
theorem dX9_hashWithPart_54 : decode cX9_hashWithPart 54 = .ok (.iload 6, 2) := by decide +kernel
theorem dX9_hashWithPart_56 : decode cX9_hashWithPart 56 = .ok (.invokevirtual 96, 3) := by decide +kernel
theorem dX9_hashWithPart_59 : decode cX9_hashWithPart 59 = .ok (.i2l, 1) := by decide +kernel
theorem dX9_hashWithPart_60 : decode cX9_hashWithPart 60 = .ok (.invokestatic 264, 3) := by decide +kernel
theorem dX9_hashWithPart_63 : decode cX9_hashWithPart 63 = .ok (.lstore 4, 2) := by decide +kernel
theorem dX9_hashWithPart_65 : decode cX9_hashWithPart 65 = .ok (.iinc 6 1, 3) := by decide +kernel
theorem dX9_hashWithPart_68 : decode cX9_hashWithPart 68 = .ok (.goto (-31), 3) := by decide +kernel
theorem dX9_hashWithPart_71 : decode cX9_hashWithPart 71 = .ok (.iconst 0, 1) := by decide +kernel
theorem dX9_hashWithPart_72 : decode cX9_hashWithPart 72 = .ok (.istore 6, 2) := by decide +kernel
theorem dX9_hashWithPart_74 : decode cX9_hashWithPart 74 = .ok (.iload 6, 2) := by decide +kernel
theorem dX9_hashWithPart_76 : decode cX9_hashWithPart 76 = .ok (.bipush 6, 2) := by decide +kernel
theorem dX9_hashWithPart_78 : decode cX9_hashWithPart 78 = .ok (.if_icmp .ge 30, 3) := by decide +kernel
theorem dX9_hashWithPart_81 : decode cX9_hashWithPart 81 = .ok (.lload 4, 2) := by decide +kernel
theorem dX9_hashWithPart_83 : decode cX9_hashWithPart 83 = .ok (.aload_n 0, 1) := by decide +kernel
theorem dX9_hashWithPart_84 : decode cX9_hashWithPart 84 = .ok (.getfield 12, 3) := by decide +kernel
theorem dX9_hashWithPart_87 : decode cX9_hashWithPart 87 = .ok (.getfield 113, 3) := by decide +kernel
theorem dX9_hashWithPart_90 : decode cX9_hashWithPart 90 = .ok (.iload_n 3, 1) := by decide +kernel
theorem dX9_hashWithPart_91 : decode cX9_hashWithPart 91 = .ok (.iload 6, 2) := by decide +kernel
theorem dX9_hashWithPart_93 : decode cX9_hashWithPart 93 = .ok (.invokevirtual 96, 3) := by decide +kernel
theorem dX9_hashWithPart_96 : decode cX9_hashWithPart 96 = .ok (.i2l, 1) := by decide +kernel
theorem dX9_hashWithPart_97 : decode cX9_hashWithPart 97 = .ok (.invokestatic 264, 3) := by decide +kernel
theorem dX9_hashWithPart_100 : decode cX9_hashWithPart 100 = .ok (.lstore 4, 2) := by decide +kernel
theorem dX9_hashWithPart_102 : decode cX9_hashWithPart 102 = .ok (.iinc 6 1, 3) := by decide +kernel
theorem dX9_hashWithPart_105 : decode cX9_hashWithPart 105 = .ok (.goto (-31), 3) := by decide +kernel
theorem dX9_hashWithPart_108 : decode cX9_hashWithPart 108 = .ok (.lload 4, 2) := by decide +kernel
theorem dX9_hashWithPart_110 : decode cX9_hashWithPart 110 = .ok (.aload_n 0, 1) := by decide +kernel
theorem dX9_hashWithPart_111 : decode cX9_hashWithPart 111 = .ok (.iload_n 3, 1) := by decide +kernel
theorem dX9_hashWithPart_112 : decode cX9_hashWithPart 112 = .ok (.invokevirtual 302, 3) := by decide +kernel
theorem dX9_hashWithPart_115 : decode cX9_hashWithPart 115 = .ok (.i2l, 1) := by decide +kernel
theorem dX9_hashWithPart_116 : decode cX9_hashWithPart 116 = .ok (.invokestatic 264, 3) := by decide +kernel
theorem dX9_hashWithPart_119 : decode cX9_hashWithPart 119 = .ok (.lreturn, 1) := by decide +kernel
theorem dX9_hashWith_0 : decode cX9_hashWith 0 = .ok (.ldc2_w 305, 3) := by decide +kernel
theorem dX9_hashWith_3 : decode cX9_hashWith 3 = .ok (.lload_n 0, 1) := by decide +kernel
theorem dX9_hashWith_4 : decode cX9_hashWith 4 = .ok (.lmul, 1) := by decide +kernel
theorem dX9_hashWith_5 : decode cX9_hashWith 5 = .ok (.lload_n 2, 1) := by decide +kernel
theorem dX9_hashWith_6 : decode cX9_hashWith 6 = .ok (.ladd, 1) := by decide +kernel
theorem dX9_hashWith_7 : decode cX9_hashWith 7 = .ok (.lreturn, 1) := by decide +kernel
theorem dX9_bitsOf_0 : decode cX9_bitsOf 0 = .ok (.dload_n 0, 1) := by decide +kernel
theorem dX9_bitsOf_1 : decode cX9_bitsOf 1 = .ok (.dconst 0, 1) := by decide +kernel
theorem dX9_bitsOf_2 : decode cX9_bitsOf 2 = .ok (.dcmp .l, 1) := by decide +kernel
theorem dX9_bitsOf_3 : decode cX9_bitsOf 3 = .ok (.ifCond .ne 5, 3) := by decide +kernel
theorem dX9_bitsOf_6 : decode cX9_bitsOf 6 = .ok (.lconst 0, 1) := by decide +kernel
theorem dX9_bitsOf_7 : decode cX9_bitsOf 7 = .ok (.lreturn, 1) := by decide +kernel
theorem dX9_bitsOf_8 : decode cX9_bitsOf 8 = .ok (.dload_n 0, 1) := by decide +kernel
theorem dX9_bitsOf_9 : decode cX9_bitsOf 9 = .ok (.dconst 0, 1) := by decide +kernel
theorem dX9_bitsOf_10 : decode cX9_bitsOf 10 = .ok (.dcmp .g, 1) := by decide +kernel
theorem dX9_bitsOf_11 : decode cX9_bitsOf 11 = .ok (.ifCond .ge 8, 3) := by decide +kernel
theorem dX9_bitsOf_14 : decode cX9_bitsOf 14 = .ok (.dload_n 0, 1) := by decide +kernel
theorem dX9_bitsOf_15 : decode cX9_bitsOf 15 = .ok (.dneg, 1) := by decide +kernel
theorem dX9_bitsOf_16 : decode cX9_bitsOf 16 = .ok (.goto 4, 3) := by decide +kernel
theorem dX9_bitsOf_19 : decode cX9_bitsOf 19 = .ok (.dload_n 0, 1) := by decide +kernel
theorem dX9_bitsOf_20 : decode cX9_bitsOf 20 = .ok (.dstore_n 2, 1) := by decide +kernel
theorem dX9_bitsOf_21 : decode cX9_bitsOf 21 = .ok (.iconst 0, 1) := by decide +kernel
theorem dX9_bitsOf_22 : decode cX9_bitsOf 22 = .ok (.istore 4, 2) := by decide +kernel
theorem dX9_bitsOf_24 : decode cX9_bitsOf 24 = .ok (.iconst 0, 1) := by decide +kernel
theorem dX9_bitsOf_25 : decode cX9_bitsOf 25 = .ok (.istore 5, 2) := by decide +kernel
theorem dX9_bitsOf_27 : decode cX9_bitsOf 27 = .ok (.iload 5, 2) := by decide +kernel
theorem dX9_bitsOf_29 : decode cX9_bitsOf 29 = .ok (.sipush 1100, 3) := by decide +kernel
theorem dX9_bitsOf_32 : decode cX9_bitsOf 32 = .ok (.if_icmp .ge 26, 3) := by decide +kernel
theorem dX9_bitsOf_35 : decode cX9_bitsOf 35 = .ok (.dload_n 2, 1) := by decide +kernel
theorem dX9_bitsOf_36 : decode cX9_bitsOf 36 = .ok (.ldc2_w 307, 3) := by decide +kernel
theorem dX9_bitsOf_39 : decode cX9_bitsOf 39 = .ok (.dcmp .l, 1) := by decide +kernel
theorem dX9_bitsOf_40 : decode cX9_bitsOf 40 = .ok (.ifCond .lt 18, 3) := by decide +kernel
theorem dX9_bitsOf_43 : decode cX9_bitsOf 43 = .ok (.dload_n 2, 1) := by decide +kernel
theorem dX9_bitsOf_44 : decode cX9_bitsOf 44 = .ok (.ldc2_w 307, 3) := by decide +kernel
theorem dX9_bitsOf_47 : decode cX9_bitsOf 47 = .ok (.ddiv, 1) := by decide +kernel
theorem dX9_bitsOf_48 : decode cX9_bitsOf 48 = .ok (.dstore_n 2, 1) := by decide +kernel
theorem dX9_bitsOf_49 : decode cX9_bitsOf 49 = .ok (.iinc 4 1, 3) := by decide +kernel
theorem dX9_bitsOf_52 : decode cX9_bitsOf 52 = .ok (.iinc 5 1, 3) := by decide +kernel
theorem dX9_bitsOf_55 : decode cX9_bitsOf 55 = .ok (.goto (-28), 3) := by decide +kernel
theorem dX9_bitsOf_58 : decode cX9_bitsOf 58 = .ok (.iconst 0, 1) := by decide +kernel
theorem dX9_bitsOf_59 : decode cX9_bitsOf 59 = .ok (.istore 5, 2) := by decide +kernel
theorem dX9_bitsOf_61 : decode cX9_bitsOf 61 = .ok (.iload 5, 2) := by decide +kernel
theorem dX9_bitsOf_63 : decode cX9_bitsOf 63 = .ok (.sipush 1100, 3) := by decide +kernel
theorem dX9_bitsOf_66 : decode cX9_bitsOf 66 = .ok (.if_icmp .ge 24, 3) := by decide +kernel
theorem dX9_bitsOf_69 : decode cX9_bitsOf 69 = .ok (.dload_n 2, 1) := by decide +kernel
theorem dX9_bitsOf_70 : decode cX9_bitsOf 70 = .ok (.dconst 1, 1) := by decide +kernel
theorem dX9_bitsOf_71 : decode cX9_bitsOf 71 = .ok (.dcmp .g, 1) := by decide +kernel
theorem dX9_bitsOf_72 : decode cX9_bitsOf 72 = .ok (.ifCond .ge 18, 3) := by decide +kernel
theorem dX9_bitsOf_75 : decode cX9_bitsOf 75 = .ok (.dload_n 2, 1) := by decide +kernel
theorem dX9_bitsOf_76 : decode cX9_bitsOf 76 = .ok (.ldc2_w 307, 3) := by decide +kernel
theorem dX9_bitsOf_79 : decode cX9_bitsOf 79 = .ok (.dmul, 1) := by decide +kernel
theorem dX9_bitsOf_80 : decode cX9_bitsOf 80 = .ok (.dstore_n 2, 1) := by decide +kernel
theorem dX9_bitsOf_81 : decode cX9_bitsOf 81 = .ok (.iinc 4 (-1), 3) := by decide +kernel
theorem dX9_bitsOf_84 : decode cX9_bitsOf 84 = .ok (.iinc 5 1, 3) := by decide +kernel
theorem dX9_bitsOf_87 : decode cX9_bitsOf 87 = .ok (.goto (-26), 3) := by decide +kernel
theorem dX9_bitsOf_90 : decode cX9_bitsOf 90 = .ok (.dload_n 2, 1) := by decide +kernel
theorem dX9_bitsOf_91 : decode cX9_bitsOf 91 = .ok (.dconst 1, 1) := by decide +kernel
theorem dX9_bitsOf_92 : decode cX9_bitsOf 92 = .ok (.dsub, 1) := by decide +kernel
theorem dX9_bitsOf_93 : decode cX9_bitsOf 93 = .ok (.ldc2_w 309, 3) := by decide +kernel
theorem dX9_bitsOf_96 : decode cX9_bitsOf 96 = .ok (.dmul, 1) := by decide +kernel
theorem dX9_bitsOf_97 : decode cX9_bitsOf 97 = .ok (.d2l, 1) := by decide +kernel
theorem dX9_bitsOf_98 : decode cX9_bitsOf 98 = .ok (.lstore 5, 2) := by decide +kernel
theorem dX9_bitsOf_100 : decode cX9_bitsOf 100 = .ok (.dload_n 0, 1) := by decide +kernel
theorem dX9_bitsOf_101 : decode cX9_bitsOf 101 = .ok (.dconst 0, 1) := by decide +kernel
theorem dX9_bitsOf_102 : decode cX9_bitsOf 102 = .ok (.dcmp .g, 1) := by decide +kernel
theorem dX9_bitsOf_103 : decode cX9_bitsOf 103 = .ok (.ifCond .ge 9, 3) := by decide +kernel
theorem dX9_bitsOf_106 : decode cX9_bitsOf 106 = .ok (.ldc2_w 313, 3) := by decide +kernel
theorem dX9_bitsOf_109 : decode cX9_bitsOf 109 = .ok (.goto 4, 3) := by decide +kernel
theorem dX9_bitsOf_112 : decode cX9_bitsOf 112 = .ok (.lconst 0, 1) := by decide +kernel
theorem dX9_bitsOf_113 : decode cX9_bitsOf 113 = .ok (.lstore 7, 2) := by decide +kernel
theorem dX9_bitsOf_115 : decode cX9_bitsOf 115 = .ok (.lload 7, 2) := by decide +kernel
theorem dX9_bitsOf_117 : decode cX9_bitsOf 117 = .ok (.iload 4, 2) := by decide +kernel
theorem dX9_bitsOf_119 : decode cX9_bitsOf 119 = .ok (.sipush 1023, 3) := by decide +kernel
theorem dX9_bitsOf_122 : decode cX9_bitsOf 122 = .ok (.iadd, 1) := by decide +kernel
theorem dX9_bitsOf_123 : decode cX9_bitsOf 123 = .ok (.i2l, 1) := by decide +kernel
theorem dX9_bitsOf_124 : decode cX9_bitsOf 124 = .ok (.bipush 52, 2) := by decide +kernel
theorem dX9_bitsOf_126 : decode cX9_bitsOf 126 = .ok (.lshl, 1) := by decide +kernel
theorem dX9_bitsOf_127 : decode cX9_bitsOf 127 = .ok (.lor, 1) := by decide +kernel
theorem dX9_bitsOf_128 : decode cX9_bitsOf 128 = .ok (.lload 5, 2) := by decide +kernel
theorem dX9_bitsOf_130 : decode cX9_bitsOf 130 = .ok (.lor, 1) := by decide +kernel
theorem dX9_bitsOf_131 : decode cX9_bitsOf 131 = .ok (.lreturn, 1) := by decide +kernel
theorem dX9_oddsFor_0 : decode cX9_oddsFor 0 = .ok (.aload_n 0, 1) := by decide +kernel
theorem dX9_oddsFor_1 : decode cX9_oddsFor 1 = .ok (.getfield 33, 3) := by decide +kernel
theorem dX9_oddsFor_4 : decode cX9_oddsFor 4 = .ok (.aload_n 0, 1) := by decide +kernel
theorem dX9_oddsFor_5 : decode cX9_oddsFor 5 = .ok (.getfield 12, 3) := by decide +kernel
theorem dX9_oddsFor_8 : decode cX9_oddsFor 8 = .ok (.iload_n 2, 1) := by decide +kernel
theorem dX9_oddsFor_9 : decode cX9_oddsFor 9 = .ok (.invokevirtual 202, 3) := by decide +kernel
theorem dX9_oddsFor_12 : decode cX9_oddsFor 12 = .ok (.aload_n 0, 1) := by decide +kernel
theorem dX9_oddsFor_13 : decode cX9_oddsFor 13 = .ok (.getfield 33, 3) := by decide +kernel
theorem dX9_oddsFor_16 : decode cX9_oddsFor 16 = .ok (.iload_n 1, 1) := by decide +kernel
theorem dX9_oddsFor_17 : decode cX9_oddsFor 17 = .ok (.invokevirtual 315, 3) := by decide +kernel
theorem dX9_oddsFor_20 : decode cX9_oddsFor 20 = .ok (.dreturn, 1) := by decide +kernel
theorem dX9_requirePart_0 : decode cX9_requirePart 0 = .ok (.iload_n 1, 1) := by decide +kernel
theorem dX9_requirePart_1 : decode cX9_requirePart 1 = .ok (.ifCond .lt 14, 3) := by decide +kernel
theorem dX9_requirePart_4 : decode cX9_requirePart 4 = .ok (.iload_n 1, 1) := by decide +kernel
theorem dX9_requirePart_5 : decode cX9_requirePart 5 = .ok (.aload_n 0, 1) := by decide +kernel
theorem dX9_requirePart_6 : decode cX9_requirePart 6 = .ok (.getfield 12, 3) := by decide +kernel
theorem dX9_requirePart_9 : decode cX9_requirePart 9 = .ok (.getfield 58, 3) := by decide +kernel
theorem dX9_requirePart_12 : decode cX9_requirePart 12 = .ok (.if_icmp .lt 14, 3) := by decide +kernel
theorem dX9_requirePart_15 : decode cX9_requirePart 15 = .ok (.new 318, 3) := by decide +kernel
theorem dX9_requirePart_18 : decode cX9_requirePart 18 = .ok (.dup, 1) := by decide +kernel
theorem dX9_requirePart_19 : decode cX9_requirePart 19 = .ok (.ldc_w 320, 3) := by decide +kernel
theorem dX9_requirePart_22 : decode cX9_requirePart 22 = .ok (.invokespecial 322, 3) := by decide +kernel
theorem dX9_requirePart_25 : decode cX9_requirePart 25 = .ok (.athrow, 1) := by decide +kernel
theorem dX9_requirePart_26 : decode cX9_requirePart 26 = .ok (.return_, 1) := by decide +kernel
theorem dX9_requireLoad_0 : decode cX9_requireLoad 0 = .ok (.iload_n 0, 1) := by decide +kernel
theorem dX9_requireLoad_1 : decode cX9_requireLoad 1 = .ok (.ifCond .lt 9, 3) := by decide +kernel
theorem dX9_requireLoad_4 : decode cX9_requireLoad 4 = .ok (.iload_n 0, 1) := by decide +kernel
theorem dX9_requireLoad_5 : decode cX9_requireLoad 5 = .ok (.bipush 6, 2) := by decide +kernel
theorem dX9_requireLoad_7 : decode cX9_requireLoad 7 = .ok (.if_icmp .lt 14, 3) := by decide +kernel
theorem dX9_requireLoad_10 : decode cX9_requireLoad 10 = .ok (.new 318, 3) := by decide +kernel
theorem dX9_requireLoad_13 : decode cX9_requireLoad 13 = .ok (.dup, 1) := by decide +kernel
theorem dX9_requireLoad_14 : decode cX9_requireLoad 14 = .ok (.ldc_w 323, 3) := by decide +kernel
theorem dX9_requireLoad_17 : decode cX9_requireLoad 17 = .ok (.invokespecial 322, 3) := by decide +kernel
theorem dX9_requireLoad_20 : decode cX9_requireLoad 20 = .ok (.athrow, 1) := by decide +kernel
theorem dX9_requireLoad_21 : decode cX9_requireLoad 21 = .ok (.return_, 1) := by decide +kernel
theorem dX9_requireRange_0 : decode cX9_requireRange 0 = .ok (.iload_n 0, 1) := by decide +kernel
theorem dX9_requireRange_1 : decode cX9_requireRange 1 = .ok (.iload_n 1, 1) := by decide +kernel
theorem dX9_requireRange_2 : decode cX9_requireRange 2 = .ok (.if_icmp .lt 8, 3) := by decide +kernel
theorem dX9_requireRange_5 : decode cX9_requireRange 5 = .ok (.iload_n 0, 1) := by decide +kernel
theorem dX9_requireRange_6 : decode cX9_requireRange 6 = .ok (.iload_n 2, 1) := by decide +kernel
theorem dX9_requireRange_7 : decode cX9_requireRange 7 = .ok (.if_icmp .le 14, 3) := by decide +kernel
theorem dX9_requireRange_10 : decode cX9_requireRange 10 = .ok (.new 51, 3) := by decide +kernel
theorem dX9_requireRange_13 : decode cX9_requireRange 13 = .ok (.dup, 1) := by decide +kernel
theorem dX9_requireRange_14 : decode cX9_requireRange 14 = .ok (.ldc_w 325, 3) := by decide +kernel
theorem dX9_requireRange_17 : decode cX9_requireRange 17 = .ok (.invokespecial 55, 3) := by decide +kernel
theorem dX9_requireRange_20 : decode cX9_requireRange 20 = .ok (.athrow, 1) := by decide +kernel
theorem dX9_requireRange_21 : decode cX9_requireRange 21 = .ok (.return_, 1) := by decide +kernel
theorem dX10_init_0 : decode cX10_init 0 = .ok (.aload_n 0, 1) := by decide +kernel
theorem dX10_init_1 : decode cX10_init 1 = .ok (.invokespecial 1, 3) := by decide +kernel
theorem dX10_init_4 : decode cX10_init 4 = .ok (.aload_n 0, 1) := by decide +kernel
theorem dX10_init_5 : decode cX10_init 5 = .ok (.bipush 83, 2) := by decide +kernel
theorem dX10_init_7 : decode cX10_init 7 = .ok (.newarray .int, 2) := by decide +kernel
theorem dX10_init_9 : decode cX10_init 9 = .ok (.putfield 7, 3) := by decide +kernel
theorem dX10_init_12 : decode cX10_init 12 = .ok (.aload_n 0, 1) := by decide +kernel
theorem dX10_init_13 : decode cX10_init 13 = .ok (.iconst 4, 1) := by decide +kernel
theorem dX10_init_14 : decode cX10_init 14 = .ok (.newarray .double, 2) := by decide +kernel
theorem dX10_init_16 : decode cX10_init 16 = .ok (.putfield 13, 3) := by decide +kernel
theorem dX10_init_19 : decode cX10_init 19 = .ok (.aload_n 0, 1) := by decide +kernel
theorem dX10_init_20 : decode cX10_init 20 = .ok (.sipush 498, 3) := by decide +kernel
theorem dX10_init_23 : decode cX10_init 23 = .ok (.newarray .int, 2) := by decide +kernel
theorem dX10_init_25 : decode cX10_init 25 = .ok (.putfield 17, 3) := by decide +kernel
theorem dX10_init_28 : decode cX10_init 28 = .ok (.aload_n 0, 1) := by decide +kernel
theorem dX10_init_29 : decode cX10_init 29 = .ok (.bipush 24, 2) := by decide +kernel
theorem dX10_init_31 : decode cX10_init 31 = .ok (.newarray .double, 2) := by decide +kernel
theorem dX10_init_33 : decode cX10_init 33 = .ok (.putfield 20, 3) := by decide +kernel
theorem dX10_init_36 : decode cX10_init 36 = .ok (.aload_n 0, 1) := by decide +kernel
theorem dX10_init_37 : decode cX10_init 37 = .ok (.bipush 60, 2) := by decide +kernel
theorem dX10_init_39 : decode cX10_init 39 = .ok (.newarray .int, 2) := by decide +kernel
theorem dX10_init_41 : decode cX10_init 41 = .ok (.putfield 23, 3) := by decide +kernel
theorem dX10_init_44 : decode cX10_init 44 = .ok (.aload_n 0, 1) := by decide +kernel
theorem dX10_init_45 : decode cX10_init 45 = .ok (.bipush 31, 2) := by decide +kernel
theorem dX10_init_47 : decode cX10_init 47 = .ok (.newarray .long, 2) := by decide +kernel
theorem dX10_init_49 : decode cX10_init 49 = .ok (.putfield 26, 3) := by decide +kernel
theorem dX10_init_52 : decode cX10_init 52 = .ok (.aload_n 0, 1) := by decide +kernel
theorem dX10_init_53 : decode cX10_init 53 = .ok (.sipush 700, 3) := by decide +kernel
theorem dX10_init_56 : decode cX10_init 56 = .ok (.newarray .int, 2) := by decide +kernel
theorem dX10_init_58 : decode cX10_init 58 = .ok (.putfield 30, 3) := by decide +kernel
theorem dX10_init_61 : decode cX10_init 61 = .ok (.aload_n 0, 1) := by decide +kernel
theorem dX10_init_62 : decode cX10_init 62 = .ok (.sipush 192, 3) := by decide +kernel
theorem dX10_init_65 : decode cX10_init 65 = .ok (.newarray .int, 2) := by decide +kernel
theorem dX10_init_67 : decode cX10_init 67 = .ok (.putfield 33, 3) := by decide +kernel
theorem dX10_init_70 : decode cX10_init 70 = .ok (.aload_n 0, 1) := by decide +kernel
theorem dX10_init_71 : decode cX10_init 71 = .ok (.bipush 6, 2) := by decide +kernel
theorem dX10_init_73 : decode cX10_init 73 = .ok (.newarray .int, 2) := by decide +kernel
theorem dX10_init_75 : decode cX10_init 75 = .ok (.putfield 36, 3) := by decide +kernel
theorem dX10_init_78 : decode cX10_init 78 = .ok (.aload_n 0, 1) := by decide +kernel
theorem dX10_init_79 : decode cX10_init 79 = .ok (.getfield 7, 3) := by decide +kernel
theorem dX10_init_82 : decode cX10_init 82 = .ok (.iconst 1, 1) := by decide +kernel
theorem dX10_init_83 : decode cX10_init 83 = .ok (.bipush 10, 2) := by decide +kernel
theorem dX10_init_85 : decode cX10_init 85 = .ok (.iastore, 1) := by decide +kernel
theorem dX10_init_86 : decode cX10_init 86 = .ok (.aload_n 0, 1) := by decide +kernel
theorem dX10_init_87 : decode cX10_init 87 = .ok (.getfield 7, 3) := by decide +kernel
theorem dX10_init_90 : decode cX10_init 90 = .ok (.iconst 2, 1) := by decide +kernel
theorem dX10_init_91 : decode cX10_init 91 = .ok (.iconst 1, 1) := by decide +kernel
theorem dX10_init_92 : decode cX10_init 92 = .ok (.iastore, 1) := by decide +kernel
theorem dX10_init_93 : decode cX10_init 93 = .ok (.return_, 1) := by decide +kernel
theorem dX10_thrown_0 : decode cX10_thrown 0 = .ok (.aload_n 0, 1) := by decide +kernel
theorem dX10_thrown_1 : decode cX10_thrown 1 = .ok (.getfield 39, 3) := by decide +kernel
theorem dX10_thrown_4 : decode cX10_thrown 4 = .ok (.ireturn, 1) := by decide +kernel
theorem dX10_within_0 : decode cX10_within 0 = .ok (.iload_n 0, 1) := by decide +kernel
theorem dX10_within_1 : decode cX10_within 1 = .ok (.iload_n 1, 1) := by decide +kernel
theorem dX10_within_2 : decode cX10_within 2 = .ok (.if_icmp .lt 12, 3) := by decide +kernel
theorem dX10_within_5 : decode cX10_within 5 = .ok (.iload_n 0, 1) := by decide +kernel
theorem dX10_within_6 : decode cX10_within 6 = .ok (.iload_n 2, 1) := by decide +kernel
theorem dX10_within_7 : decode cX10_within 7 = .ok (.if_icmp .gt 7, 3) := by decide +kernel
theorem dX10_within_10 : decode cX10_within 10 = .ok (.iconst 1, 1) := by decide +kernel
theorem dX10_within_11 : decode cX10_within 11 = .ok (.goto 4, 3) := by decide +kernel
theorem dX10_within_14 : decode cX10_within 14 = .ok (.iconst 0, 1) := by decide +kernel
theorem dX10_within_15 : decode cX10_within 15 = .ok (.ireturn, 1) := by decide +kernel
theorem dX10_save_0 : decode cX10_save 0 = .ok (.aload_n 0, 1) := by decide +kernel
theorem dX10_save_1 : decode cX10_save 1 = .ok (.getfield 43, 3) := by decide +kernel
theorem dX10_save_4 : decode cX10_save 4 = .ok (.bipush 6, 2) := by decide +kernel
theorem dX10_save_6 : decode cX10_save 6 = .ok (.if_icmp .ne 72, 3) := by decide +kernel
theorem dX10_save_9 : decode cX10_save 9 = .ok (.bipush 83, 2) := by decide +kernel
theorem dX10_save_11 : decode cX10_save 11 = .ok (.istore_n 1, 1) := by decide +kernel
theorem dX10_save_12 : decode cX10_save 12 = .ok (.iload_n 1, 1) := by decide +kernel
theorem dX10_save_13 : decode cX10_save 13 = .ok (.sipush 498, 3) := by decide +kernel
theorem dX10_save_16 : decode cX10_save 16 = .ok (.if_icmp .ge 24, 3) := by decide +kernel
theorem dX10_save_19 : decode cX10_save 19 = .ok (.aload_n 0, 1) := by decide +kernel
theorem dX10_save_20 : decode cX10_save 20 = .ok (.getfield 17, 3) := by decide +kernel
theorem dX10_save_23 : decode cX10_save 23 = .ok (.iload_n 1, 1) := by decide +kernel
theorem dX10_save_24 : decode cX10_save 24 = .ok (.bipush 83, 2) := by decide +kernel
theorem dX10_save_26 : decode cX10_save 26 = .ok (.isub, 1) := by decide +kernel
theorem dX10_save_27 : decode cX10_save 27 = .ok (.aload_n 0, 1) := by decide +kernel
theorem dX10_save_28 : decode cX10_save 28 = .ok (.getfield 17, 3) := by decide +kernel
theorem dX10_save_31 : decode cX10_save 31 = .ok (.iload_n 1, 1) := by decide +kernel
theorem dX10_save_32 : decode cX10_save 32 = .ok (.iaload, 1) := by decide +kernel
theorem dX10_save_33 : decode cX10_save 33 = .ok (.iastore, 1) := by decide +kernel
theorem dX10_save_34 : decode cX10_save 34 = .ok (.iinc 1 1, 3) := by decide +kernel
theorem dX10_save_37 : decode cX10_save 37 = .ok (.goto (-25), 3) := by decide +kernel
theorem dX10_save_40 : decode cX10_save 40 = .ok (.iconst 4, 1) := by decide +kernel
theorem dX10_save_41 : decode cX10_save 41 = .ok (.istore_n 1, 1) := by decide +kernel
theorem dX10_save_42 : decode cX10_save 42 = .ok (.iload_n 1, 1) := by decide +kernel
theorem dX10_save_43 : decode cX10_save 43 = .ok (.bipush 24, 2) := by decide +kernel
theorem dX10_save_45 : decode cX10_save 45 = .ok (.if_icmp .ge 23, 3) := by decide +kernel
theorem dX10_save_48 : decode cX10_save 48 = .ok (.aload_n 0, 1) := by decide +kernel
theorem dX10_save_49 : decode cX10_save 49 = .ok (.getfield 20, 3) := by decide +kernel
theorem dX10_save_52 : decode cX10_save 52 = .ok (.iload_n 1, 1) := by decide +kernel
theorem dX10_save_53 : decode cX10_save 53 = .ok (.iconst 4, 1) := by decide +kernel
theorem dX10_save_54 : decode cX10_save 54 = .ok (.isub, 1) := by decide +kernel
theorem dX10_save_55 : decode cX10_save 55 = .ok (.aload_n 0, 1) := by decide +kernel
theorem dX10_save_56 : decode cX10_save 56 = .ok (.getfield 20, 3) := by decide +kernel
theorem dX10_save_59 : decode cX10_save 59 = .ok (.iload_n 1, 1) := by decide +kernel
theorem dX10_save_60 : decode cX10_save 60 = .ok (.daload, 1) := by decide +kernel
theorem dX10_save_61 : decode cX10_save 61 = .ok (.dastore, 1) := by decide +kernel
theorem dX10_save_62 : decode cX10_save 62 = .ok (.iinc 1 1, 3) := by decide +kernel
theorem dX10_save_65 : decode cX10_save 65 = .ok (.goto (-23), 3) := by decide +kernel
theorem dX10_save_68 : decode cX10_save 68 = .ok (.aload_n 0, 1) := by decide +kernel
theorem dX10_save_69 : decode cX10_save 69 = .ok (.dup, 1) := by decide +kernel
theorem dX10_save_70 : decode cX10_save 70 = .ok (.getfield 43, 3) := by decide +kernel
theorem dX10_save_73 : decode cX10_save 73 = .ok (.iconst 1, 1) := by decide +kernel
theorem dX10_save_74 : decode cX10_save 74 = .ok (.isub, 1) := by decide +kernel
theorem dX10_save_75 : decode cX10_save 75 = .ok (.putfield 43, 3) := by decide +kernel
theorem dX10_save_78 : decode cX10_save 78 = .ok (.iconst 0, 1) := by decide +kernel
theorem dX10_save_79 : decode cX10_save 79 = .ok (.istore_n 1, 1) := by decide +kernel
theorem dX10_save_80 : decode cX10_save 80 = .ok (.iload_n 1, 1) := by decide +kernel
theorem dX10_save_81 : decode cX10_save 81 = .ok (.bipush 83, 2) := by decide +kernel
theorem dX10_save_83 : decode cX10_save 83 = .ok (.if_icmp .ge 29, 3) := by decide +kernel
theorem dX10_save_86 : decode cX10_save 86 = .ok (.aload_n 0, 1) := by decide +kernel
theorem dX10_save_87 : decode cX10_save 87 = .ok (.getfield 17, 3) := by decide +kernel
theorem dX10_save_90 : decode cX10_save 90 = .ok (.bipush 83, 2) := by decide +kernel
theorem dX10_save_92 : decode cX10_save 92 = .ok (.aload_n 0, 1) := by decide +kernel
theorem dX10_save_93 : decode cX10_save 93 = .ok (.getfield 43, 3) := by decide +kernel
theorem dX10_save_96 : decode cX10_save 96 = .ok (.imul, 1) := by decide +kernel
theorem dX10_save_97 : decode cX10_save 97 = .ok (.iload_n 1, 1) := by decide +kernel
theorem dX10_save_98 : decode cX10_save 98 = .ok (.iadd, 1) := by decide +kernel
theorem dX10_save_99 : decode cX10_save 99 = .ok (.aload_n 0, 1) := by decide +kernel
theorem dX10_save_100 : decode cX10_save 100 = .ok (.getfield 7, 3) := by decide +kernel
theorem dX10_save_103 : decode cX10_save 103 = .ok (.iload_n 1, 1) := by decide +kernel
theorem dX10_save_104 : decode cX10_save 104 = .ok (.iaload, 1) := by decide +kernel
theorem dX10_save_105 : decode cX10_save 105 = .ok (.iastore, 1) := by decide +kernel
theorem dX10_save_106 : decode cX10_save 106 = .ok (.iinc 1 1, 3) := by decide +kernel
theorem dX10_save_109 : decode cX10_save 109 = .ok (.goto (-29), 3) := by decide +kernel
theorem dX10_save_112 : decode cX10_save 112 = .ok (.iconst 0, 1) := by decide +kernel
theorem dX10_save_113 : decode cX10_save 113 = .ok (.istore_n 1, 1) := by decide +kernel
theorem dX10_save_114 : decode cX10_save 114 = .ok (.iload_n 1, 1) := by decide +kernel
theorem dX10_save_115 : decode cX10_save 115 = .ok (.iconst 4, 1) := by decide +kernel
theorem dX10_save_116 : decode cX10_save 116 = .ok (.if_icmp .ge 28, 3) := by decide +kernel
theorem dX10_save_119 : decode cX10_save 119 = .ok (.aload_n 0, 1) := by decide +kernel
theorem dX10_save_120 : decode cX10_save 120 = .ok (.getfield 20, 3) := by decide +kernel
theorem dX10_save_123 : decode cX10_save 123 = .ok (.iconst 4, 1) := by decide +kernel
theorem dX10_save_124 : decode cX10_save 124 = .ok (.aload_n 0, 1) := by decide +kernel
theorem dX10_save_125 : decode cX10_save 125 = .ok (.getfield 43, 3) := by decide +kernel
theorem dX10_save_128 : decode cX10_save 128 = .ok (.imul, 1) := by decide +kernel
theorem dX10_save_129 : decode cX10_save 129 = .ok (.iload_n 1, 1) := by decide +kernel
theorem dX10_save_130 : decode cX10_save 130 = .ok (.iadd, 1) := by decide +kernel
theorem dX10_save_131 : decode cX10_save 131 = .ok (.aload_n 0, 1) := by decide +kernel
theorem dX10_save_132 : decode cX10_save 132 = .ok (.getfield 13, 3) := by decide +kernel
theorem dX10_save_135 : decode cX10_save 135 = .ok (.iload_n 1, 1) := by decide +kernel
theorem dX10_save_136 : decode cX10_save 136 = .ok (.daload, 1) := by decide +kernel
theorem dX10_save_137 : decode cX10_save 137 = .ok (.dastore, 1) := by decide +kernel
theorem dX10_save_138 : decode cX10_save 138 = .ok (.iinc 1 1, 3) := by decide +kernel
theorem dX10_save_141 : decode cX10_save 141 = .ok (.goto (-27), 3) := by decide +kernel
theorem dX10_save_144 : decode cX10_save 144 = .ok (.aload_n 0, 1) := by decide +kernel
theorem dX10_save_145 : decode cX10_save 145 = .ok (.dup, 1) := by decide +kernel
theorem dX10_save_146 : decode cX10_save 146 = .ok (.getfield 43, 3) := by decide +kernel
theorem dX10_save_149 : decode cX10_save 149 = .ok (.iconst 1, 1) := by decide +kernel
theorem dX10_save_150 : decode cX10_save 150 = .ok (.iadd, 1) := by decide +kernel
theorem dX10_save_151 : decode cX10_save 151 = .ok (.putfield 43, 3) := by decide +kernel
theorem dX10_save_154 : decode cX10_save 154 = .ok (.return_, 1) := by decide +kernel
theorem dX10_isPart_0 : decode cX10_isPart 0 = .ok (.iload_n 1, 1) := by decide +kernel
theorem dX10_isPart_1 : decode cX10_isPart 1 = .ok (.iconst 0, 1) := by decide +kernel
theorem dX10_isPart_2 : decode cX10_isPart 2 = .ok (.aload_n 0, 1) := by decide +kernel
theorem dX10_isPart_3 : decode cX10_isPart 3 = .ok (.getfield 7, 3) := by decide +kernel
theorem dX10_isPart_6 : decode cX10_isPart 6 = .ok (.iconst 0, 1) := by decide +kernel
theorem dX10_isPart_7 : decode cX10_isPart 7 = .ok (.iaload, 1) := by decide +kernel
theorem dX10_isPart_8 : decode cX10_isPart 8 = .ok (.iconst 1, 1) := by decide +kernel
theorem dX10_isPart_9 : decode cX10_isPart 9 = .ok (.isub, 1) := by decide +kernel
theorem dX10_isPart_10 : decode cX10_isPart 10 = .ok (.invokestatic 46, 3) := by decide +kernel
theorem dX10_isPart_13 : decode cX10_isPart 13 = .ok (.ireturn, 1) := by decide +kernel
theorem dX10_isLoad_0 : decode cX10_isLoad 0 = .ok (.iload_n 0, 1) := by decide +kernel
theorem dX10_isLoad_1 : decode cX10_isLoad 1 = .ok (.iconst 0, 1) := by decide +kernel
theorem dX10_isLoad_2 : decode cX10_isLoad 2 = .ok (.iconst 5, 1) := by decide +kernel
theorem dX10_isLoad_3 : decode cX10_isLoad 3 = .ok (.invokestatic 46, 3) := by decide +kernel
theorem dX10_isLoad_6 : decode cX10_isLoad 6 = .ok (.ireturn, 1) := by decide +kernel
theorem dX10_weightOf_0 : decode cX10_weightOf 0 = .ok (.aload_n 0, 1) := by decide +kernel
theorem dX10_weightOf_1 : decode cX10_weightOf 1 = .ok (.getfield 7, 3) := by decide +kernel
theorem dX10_weightOf_4 : decode cX10_weightOf 4 = .ok (.bipush 11, 2) := by decide +kernel
theorem dX10_weightOf_6 : decode cX10_weightOf 6 = .ok (.bipush 6, 2) := by decide +kernel
theorem dX10_weightOf_8 : decode cX10_weightOf 8 = .ok (.iload_n 1, 1) := by decide +kernel
theorem dX10_weightOf_9 : decode cX10_weightOf 9 = .ok (.imul, 1) := by decide +kernel
theorem dX10_weightOf_10 : decode cX10_weightOf 10 = .ok (.iadd, 1) := by decide +kernel
theorem dX10_weightOf_11 : decode cX10_weightOf 11 = .ok (.iload_n 2, 1) := by decide +kernel
theorem dX10_weightOf_12 : decode cX10_weightOf 12 = .ok (.iadd, 1) := by decide +kernel
theorem dX10_weightOf_13 : decode cX10_weightOf 13 = .ok (.iaload, 1) := by decide +kernel
theorem dX10_weightOf_14 : decode cX10_weightOf 14 = .ok (.ireturn, 1) := by decide +kernel
theorem dX10_tiltedOf_0 : decode cX10_tiltedOf 0 = .ok (.aload_n 0, 1) := by decide +kernel
theorem dX10_tiltedOf_1 : decode cX10_tiltedOf 1 = .ok (.getfield 7, 3) := by decide +kernel
theorem dX10_tiltedOf_4 : decode cX10_tiltedOf 4 = .ok (.bipush 47, 2) := by decide +kernel
theorem dX10_tiltedOf_6 : decode cX10_tiltedOf 6 = .ok (.bipush 6, 2) := by decide +kernel
theorem dX10_tiltedOf_8 : decode cX10_tiltedOf 8 = .ok (.iload_n 1, 1) := by decide +kernel
theorem dX10_tiltedOf_9 : decode cX10_tiltedOf 9 = .ok (.imul, 1) := by decide +kernel
theorem dX10_tiltedOf_10 : decode cX10_tiltedOf 10 = .ok (.iadd, 1) := by decide +kernel
theorem dX10_tiltedOf_11 : decode cX10_tiltedOf 11 = .ok (.iload_n 2, 1) := by decide +kernel
theorem dX10_tiltedOf_12 : decode cX10_tiltedOf 12 = .ok (.iadd, 1) := by decide +kernel
theorem dX10_tiltedOf_13 : decode cX10_tiltedOf 13 = .ok (.iaload, 1) := by decide +kernel
theorem dX10_tiltedOf_14 : decode cX10_tiltedOf 14 = .ok (.ireturn, 1) := by decide +kernel
theorem dX10_totalOf_0 : decode cX10_totalOf 0 = .ok (.iconst 0, 1) := by decide +kernel
theorem dX10_totalOf_1 : decode cX10_totalOf 1 = .ok (.istore_n 2, 1) := by decide +kernel
theorem dX10_totalOf_2 : decode cX10_totalOf 2 = .ok (.iconst 0, 1) := by decide +kernel
theorem dX10_totalOf_3 : decode cX10_totalOf 3 = .ok (.istore_n 3, 1) := by decide +kernel
theorem dX10_totalOf_4 : decode cX10_totalOf 4 = .ok (.iload_n 3, 1) := by decide +kernel
theorem dX10_totalOf_5 : decode cX10_totalOf 5 = .ok (.bipush 6, 2) := by decide +kernel
theorem dX10_totalOf_7 : decode cX10_totalOf 7 = .ok (.if_icmp .ge 18, 3) := by decide +kernel
theorem dX10_totalOf_10 : decode cX10_totalOf 10 = .ok (.iload_n 2, 1) := by decide +kernel
theorem dX10_totalOf_11 : decode cX10_totalOf 11 = .ok (.aload_n 0, 1) := by decide +kernel
theorem dX10_totalOf_12 : decode cX10_totalOf 12 = .ok (.iload_n 1, 1) := by decide +kernel
theorem dX10_totalOf_13 : decode cX10_totalOf 13 = .ok (.iload_n 3, 1) := by decide +kernel
theorem dX10_totalOf_14 : decode cX10_totalOf 14 = .ok (.invokevirtual 50, 3) := by decide +kernel
theorem dX10_totalOf_17 : decode cX10_totalOf 17 = .ok (.iadd, 1) := by decide +kernel
theorem dX10_totalOf_18 : decode cX10_totalOf 18 = .ok (.istore_n 2, 1) := by decide +kernel
theorem dX10_totalOf_19 : decode cX10_totalOf 19 = .ok (.iinc 3 1, 3) := by decide +kernel
theorem dX10_totalOf_22 : decode cX10_totalOf 22 = .ok (.goto (-18), 3) := by decide +kernel
theorem dX10_totalOf_25 : decode cX10_totalOf 25 = .ok (.iload_n 2, 1) := by decide +kernel
theorem dX10_totalOf_26 : decode cX10_totalOf 26 = .ok (.ireturn, 1) := by decide +kernel
theorem dX10_tiltedTotalOf_0 : decode cX10_tiltedTotalOf 0 = .ok (.iconst 0, 1) := by decide +kernel
theorem dX10_tiltedTotalOf_1 : decode cX10_tiltedTotalOf 1 = .ok (.istore_n 2, 1) := by decide +kernel
theorem dX10_tiltedTotalOf_2 : decode cX10_tiltedTotalOf 2 = .ok (.iconst 0, 1) := by decide +kernel
theorem dX10_tiltedTotalOf_3 : decode cX10_tiltedTotalOf 3 = .ok (.istore_n 3, 1) := by decide +kernel
theorem dX10_tiltedTotalOf_4 : decode cX10_tiltedTotalOf 4 = .ok (.iload_n 3, 1) := by decide +kernel
theorem dX10_tiltedTotalOf_5 : decode cX10_tiltedTotalOf 5 = .ok (.bipush 6, 2) := by decide +kernel
theorem dX10_tiltedTotalOf_7 : decode cX10_tiltedTotalOf 7 = .ok (.if_icmp .ge 18, 3) := by decide +kernel
theorem dX10_tiltedTotalOf_10 : decode cX10_tiltedTotalOf 10 = .ok (.iload_n 2, 1) := by decide +kernel
theorem dX10_tiltedTotalOf_11 : decode cX10_tiltedTotalOf 11 = .ok (.aload_n 0, 1) := by decide +kernel
theorem dX10_tiltedTotalOf_12 : decode cX10_tiltedTotalOf 12 = .ok (.iload_n 1, 1) := by decide +kernel
theorem dX10_tiltedTotalOf_13 : decode cX10_tiltedTotalOf 13 = .ok (.iload_n 3, 1) := by decide +kernel
theorem dX10_tiltedTotalOf_14 : decode cX10_tiltedTotalOf 14 = .ok (.invokevirtual 54, 3) := by decide +kernel
theorem dX10_tiltedTotalOf_17 : decode cX10_tiltedTotalOf 17 = .ok (.iadd, 1) := by decide +kernel
theorem dX10_tiltedTotalOf_18 : decode cX10_tiltedTotalOf 18 = .ok (.istore_n 2, 1) := by decide +kernel
theorem dX10_tiltedTotalOf_19 : decode cX10_tiltedTotalOf 19 = .ok (.iinc 3 1, 3) := by decide +kernel
theorem dX10_tiltedTotalOf_22 : decode cX10_tiltedTotalOf 22 = .ok (.goto (-18), 3) := by decide +kernel
theorem dX10_tiltedTotalOf_25 : decode cX10_tiltedTotalOf 25 = .ok (.iload_n 2, 1) := by decide +kernel
theorem dX10_tiltedTotalOf_26 : decode cX10_tiltedTotalOf 26 = .ok (.ireturn, 1) := by decide +kernel
theorem dX10_forgets_0 : decode cX10_forgets 0 = .ok (.aload_n 0, 1) := by decide +kernel
theorem dX10_forgets_1 : decode cX10_forgets 1 = .ok (.getfield 7, 3) := by decide +kernel
theorem dX10_forgets_4 : decode cX10_forgets 4 = .ok (.iconst 3, 1) := by decide +kernel
theorem dX10_forgets_5 : decode cX10_forgets 5 = .ok (.iaload, 1) := by decide +kernel
theorem dX10_forgets_6 : decode cX10_forgets 6 = .ok (.istore_n 1, 1) := by decide +kernel
theorem dX10_forgets_7 : decode cX10_forgets 7 = .ok (.aload_n 0, 1) := by decide +kernel
theorem dX10_forgets_8 : decode cX10_forgets 8 = .ok (.getfield 7, 3) := by decide +kernel
theorem dX10_forgets_11 : decode cX10_forgets 11 = .ok (.iconst 3, 1) := by decide +kernel
theorem dX10_forgets_12 : decode cX10_forgets 12 = .ok (.iconst 0, 1) := by decide +kernel
theorem dX10_forgets_13 : decode cX10_forgets 13 = .ok (.iastore, 1) := by decide +kernel
theorem dX10_forgets_14 : decode cX10_forgets 14 = .ok (.aload_n 0, 1) := by decide +kernel
theorem dX10_forgets_15 : decode cX10_forgets 15 = .ok (.getfield 7, 3) := by decide +kernel
theorem dX10_forgets_18 : decode cX10_forgets 18 = .ok (.iconst 4, 1) := by decide +kernel
theorem dX10_forgets_19 : decode cX10_forgets 19 = .ok (.iconst 0, 1) := by decide +kernel
theorem dX10_forgets_20 : decode cX10_forgets 20 = .ok (.iastore, 1) := by decide +kernel
theorem dX10_forgets_21 : decode cX10_forgets 21 = .ok (.iconst 0, 1) := by decide +kernel
theorem dX10_forgets_22 : decode cX10_forgets 22 = .ok (.istore_n 2, 1) := by decide +kernel
theorem dX10_forgets_23 : decode cX10_forgets 23 = .ok (.iload_n 2, 1) := by decide +kernel
theorem dX10_forgets_24 : decode cX10_forgets 24 = .ok (.bipush 6, 2) := by decide +kernel
theorem dX10_forgets_26 : decode cX10_forgets 26 = .ok (.if_icmp .ge 18, 3) := by decide +kernel
theorem dX10_forgets_29 : decode cX10_forgets 29 = .ok (.aload_n 0, 1) := by decide +kernel
theorem dX10_forgets_30 : decode cX10_forgets 30 = .ok (.getfield 7, 3) := by decide +kernel
theorem dX10_forgets_33 : decode cX10_forgets 33 = .ok (.iconst 5, 1) := by decide +kernel
theorem dX10_forgets_34 : decode cX10_forgets 34 = .ok (.iload_n 2, 1) := by decide +kernel
theorem dX10_forgets_35 : decode cX10_forgets 35 = .ok (.iadd, 1) := by decide +kernel
theorem dX10_forgets_36 : decode cX10_forgets 36 = .ok (.iconst 0, 1) := by decide +kernel
theorem dX10_forgets_37 : decode cX10_forgets 37 = .ok (.iastore, 1) := by decide +kernel
theorem dX10_forgets_38 : decode cX10_forgets 38 = .ok (.iinc 2 1, 3) := by decide +kernel
theorem dX10_forgets_41 : decode cX10_forgets 41 = .ok (.goto (-18), 3) := by decide +kernel
theorem dX10_forgets_44 : decode cX10_forgets 44 = .ok (.iconst 0, 1) := by decide +kernel
theorem dX10_forgets_45 : decode cX10_forgets 45 = .ok (.istore_n 2, 1) := by decide +kernel
theorem dX10_forgets_46 : decode cX10_forgets 46 = .ok (.iload_n 2, 1) := by decide +kernel
theorem dX10_forgets_47 : decode cX10_forgets 47 = .ok (.iconst 4, 1) := by decide +kernel
theorem dX10_forgets_48 : decode cX10_forgets 48 = .ok (.if_icmp .ge 16, 3) := by decide +kernel
theorem dX10_forgets_51 : decode cX10_forgets 51 = .ok (.aload_n 0, 1) := by decide +kernel
theorem dX10_forgets_52 : decode cX10_forgets 52 = .ok (.getfield 13, 3) := by decide +kernel
theorem dX10_forgets_55 : decode cX10_forgets 55 = .ok (.iload_n 2, 1) := by decide +kernel
theorem dX10_forgets_56 : decode cX10_forgets 56 = .ok (.dconst 0, 1) := by decide +kernel
theorem dX10_forgets_57 : decode cX10_forgets 57 = .ok (.dastore, 1) := by decide +kernel
theorem dX10_forgets_58 : decode cX10_forgets 58 = .ok (.iinc 2 1, 3) := by decide +kernel
theorem dX10_forgets_61 : decode cX10_forgets 61 = .ok (.goto (-15), 3) := by decide +kernel
theorem dX10_forgets_64 : decode cX10_forgets 64 = .ok (.iload_n 1, 1) := by decide +kernel
theorem dX10_forgets_65 : decode cX10_forgets 65 = .ok (.ireturn, 1) := by decide +kernel
theorem dX10_drawLoad_0 : decode cX10_drawLoad 0 = .ok (.aload_n 0, 1) := by decide +kernel
theorem dX10_drawLoad_1 : decode cX10_drawLoad 1 = .ok (.getfield 7, 3) := by decide +kernel
theorem dX10_drawLoad_4 : decode cX10_drawLoad 4 = .ok (.iconst 2, 1) := by decide +kernel
theorem dX10_drawLoad_5 : decode cX10_drawLoad 5 = .ok (.iaload, 1) := by decide +kernel
theorem dX10_drawLoad_6 : decode cX10_drawLoad 6 = .ok (.i2l, 1) := by decide +kernel
theorem dX10_drawLoad_7 : decode cX10_drawLoad 7 = .ok (.ldc2_w 57, 3) := by decide +kernel
theorem dX10_drawLoad_10 : decode cX10_drawLoad 10 = .ok (.lmul, 1) := by decide +kernel
theorem dX10_drawLoad_11 : decode cX10_drawLoad 11 = .ok (.ldc2_w 59, 3) := by decide +kernel
theorem dX10_drawLoad_14 : decode cX10_drawLoad 14 = .ok (.ladd, 1) := by decide +kernel
theorem dX10_drawLoad_15 : decode cX10_drawLoad 15 = .ok (.ldc2_w 61, 3) := by decide +kernel
theorem dX10_drawLoad_18 : decode cX10_drawLoad 18 = .ok (.lrem, 1) := by decide +kernel
theorem dX10_drawLoad_19 : decode cX10_drawLoad 19 = .ok (.lstore_n 2, 1) := by decide +kernel
theorem dX10_drawLoad_20 : decode cX10_drawLoad 20 = .ok (.aload_n 0, 1) := by decide +kernel
theorem dX10_drawLoad_21 : decode cX10_drawLoad 21 = .ok (.getfield 7, 3) := by decide +kernel
theorem dX10_drawLoad_24 : decode cX10_drawLoad 24 = .ok (.iconst 2, 1) := by decide +kernel
theorem dX10_drawLoad_25 : decode cX10_drawLoad 25 = .ok (.lload_n 2, 1) := by decide +kernel
theorem dX10_drawLoad_26 : decode cX10_drawLoad 26 = .ok (.l2i, 1) := by decide +kernel
theorem dX10_drawLoad_27 : decode cX10_drawLoad 27 = .ok (.iastore, 1) := by decide +kernel
theorem dX10_drawLoad_28 : decode cX10_drawLoad 28 = .ok (.aload_n 0, 1) := by decide +kernel
theorem dX10_drawLoad_29 : decode cX10_drawLoad 29 = .ok (.getfield 7, 3) := by decide +kernel
theorem dX10_drawLoad_32 : decode cX10_drawLoad 32 = .ok (.iconst 2, 1) := by decide +kernel
theorem dX10_drawLoad_33 : decode cX10_drawLoad 33 = .ok (.iaload, 1) := by decide +kernel
theorem dX10_drawLoad_34 : decode cX10_drawLoad 34 = .ok (.ldc 63, 2) := by decide +kernel
theorem dX10_drawLoad_36 : decode cX10_drawLoad 36 = .ok (.idiv, 1) := by decide +kernel
theorem dX10_drawLoad_37 : decode cX10_drawLoad 37 = .ok (.aload_n 0, 1) := by decide +kernel
theorem dX10_drawLoad_38 : decode cX10_drawLoad 38 = .ok (.iload_n 1, 1) := by decide +kernel
theorem dX10_drawLoad_39 : decode cX10_drawLoad 39 = .ok (.invokevirtual 64, 3) := by decide +kernel
theorem dX10_drawLoad_42 : decode cX10_drawLoad 42 = .ok (.irem, 1) := by decide +kernel
theorem dX10_drawLoad_43 : decode cX10_drawLoad 43 = .ok (.istore 4, 2) := by decide +kernel
theorem dX10_drawLoad_45 : decode cX10_drawLoad 45 = .ok (.iconst 0, 1) := by decide +kernel
theorem dX10_drawLoad_46 : decode cX10_drawLoad 46 = .ok (.istore 5, 2) := by decide +kernel
theorem dX10_drawLoad_48 : decode cX10_drawLoad 48 = .ok (.aload_n 0, 1) := by decide +kernel
theorem dX10_drawLoad_49 : decode cX10_drawLoad 49 = .ok (.iload_n 1, 1) := by decide +kernel
theorem dX10_drawLoad_50 : decode cX10_drawLoad 50 = .ok (.iconst 0, 1) := by decide +kernel
theorem dX10_drawLoad_51 : decode cX10_drawLoad 51 = .ok (.invokevirtual 54, 3) := by decide +kernel
theorem dX10_drawLoad_54 : decode cX10_drawLoad 54 = .ok (.istore 6, 2) := by decide +kernel
theorem dX10_drawLoad_56 : decode cX10_drawLoad 56 = .ok (.iload 6, 2) := by decide +kernel
theorem dX10_drawLoad_58 : decode cX10_drawLoad 58 = .ok (.iload 4, 2) := by decide +kernel
theorem dX10_drawLoad_60 : decode cX10_drawLoad 60 = .ok (.if_icmp .gt 21, 3) := by decide +kernel
theorem dX10_drawLoad_63 : decode cX10_drawLoad 63 = .ok (.iinc 5 1, 3) := by decide +kernel
theorem dX10_drawLoad_66 : decode cX10_drawLoad 66 = .ok (.iload 6, 2) := by decide +kernel
theorem dX10_drawLoad_68 : decode cX10_drawLoad 68 = .ok (.aload_n 0, 1) := by decide +kernel
theorem dX10_drawLoad_69 : decode cX10_drawLoad 69 = .ok (.iload_n 1, 1) := by decide +kernel
theorem dX10_drawLoad_70 : decode cX10_drawLoad 70 = .ok (.iload 5, 2) := by decide +kernel
theorem dX10_drawLoad_72 : decode cX10_drawLoad 72 = .ok (.invokevirtual 54, 3) := by decide +kernel
theorem dX10_drawLoad_75 : decode cX10_drawLoad 75 = .ok (.iadd, 1) := by decide +kernel
theorem dX10_drawLoad_76 : decode cX10_drawLoad 76 = .ok (.istore 6, 2) := by decide +kernel
theorem dX10_drawLoad_78 : decode cX10_drawLoad 78 = .ok (.goto (-22), 3) := by decide +kernel
theorem dX10_drawLoad_81 : decode cX10_drawLoad 81 = .ok (.iload 5, 2) := by decide +kernel
theorem dX10_drawLoad_83 : decode cX10_drawLoad 83 = .ok (.ireturn, 1) := by decide +kernel
theorem dX10_corrected_0 : decode cX10_corrected 0 = .ok (.dload_n 1, 1) := by decide +kernel
theorem dX10_corrected_1 : decode cX10_corrected 1 = .ok (.aload_n 0, 1) := by decide +kernel
theorem dX10_corrected_2 : decode cX10_corrected 2 = .ok (.iload_n 3, 1) := by decide +kernel
theorem dX10_corrected_3 : decode cX10_corrected 3 = .ok (.iload 4, 2) := by decide +kernel
theorem dX10_corrected_5 : decode cX10_corrected 5 = .ok (.invokevirtual 50, 3) := by decide +kernel
theorem dX10_corrected_8 : decode cX10_corrected 8 = .ok (.i2d, 1) := by decide +kernel
theorem dX10_corrected_9 : decode cX10_corrected 9 = .ok (.dmul, 1) := by decide +kernel
theorem dX10_corrected_10 : decode cX10_corrected 10 = .ok (.dstore 5, 2) := by decide +kernel
theorem dX10_corrected_12 : decode cX10_corrected 12 = .ok (.dload 5, 2) := by decide +kernel
theorem dX10_corrected_14 : decode cX10_corrected 14 = .ok (.aload_n 0, 1) := by decide +kernel
theorem dX10_corrected_15 : decode cX10_corrected 15 = .ok (.iload_n 3, 1) := by decide +kernel
theorem dX10_corrected_16 : decode cX10_corrected 16 = .ok (.invokevirtual 64, 3) := by decide +kernel
theorem dX10_corrected_19 : decode cX10_corrected 19 = .ok (.i2d, 1) := by decide +kernel
theorem dX10_corrected_20 : decode cX10_corrected 20 = .ok (.dmul, 1) := by decide +kernel
theorem dX10_corrected_21 : decode cX10_corrected 21 = .ok (.dstore 5, 2) := by decide +kernel
theorem dX10_corrected_23 : decode cX10_corrected 23 = .ok (.dload 5, 2) := by decide +kernel
theorem dX10_corrected_25 : decode cX10_corrected 25 = .ok (.aload_n 0, 1) := by decide +kernel
theorem dX10_corrected_26 : decode cX10_corrected 26 = .ok (.iload_n 3, 1) := by decide +kernel
theorem dX10_corrected_27 : decode cX10_corrected 27 = .ok (.invokevirtual 68, 3) := by decide +kernel
theorem dX10_corrected_30 : decode cX10_corrected 30 = .ok (.i2d, 1) := by decide +kernel
theorem dX10_corrected_31 : decode cX10_corrected 31 = .ok (.ddiv, 1) := by decide +kernel
theorem dX10_corrected_32 : decode cX10_corrected 32 = .ok (.dstore 5, 2) := by decide +kernel
theorem dX10_corrected_34 : decode cX10_corrected 34 = .ok (.dload 5, 2) := by decide +kernel
theorem dX10_corrected_36 : decode cX10_corrected 36 = .ok (.aload_n 0, 1) := by decide +kernel
theorem dX10_corrected_37 : decode cX10_corrected 37 = .ok (.iload_n 3, 1) := by decide +kernel
theorem dX10_corrected_38 : decode cX10_corrected 38 = .ok (.iload 4, 2) := by decide +kernel
theorem dX10_corrected_40 : decode cX10_corrected 40 = .ok (.invokevirtual 54, 3) := by decide +kernel
theorem dX10_corrected_43 : decode cX10_corrected 43 = .ok (.i2d, 1) := by decide +kernel
theorem dX10_corrected_44 : decode cX10_corrected 44 = .ok (.ddiv, 1) := by decide +kernel
theorem dX10_corrected_45 : decode cX10_corrected 45 = .ok (.dreturn, 1) := by decide +kernel
theorem dX10_drawRow_0 : decode cX10_drawRow 0 = .ok (.iconst 0, 1) := by decide +kernel
theorem dX10_drawRow_1 : decode cX10_drawRow 1 = .ok (.istore_n 1, 1) := by decide +kernel
theorem dX10_drawRow_2 : decode cX10_drawRow 2 = .ok (.dconst 1, 1) := by decide +kernel
theorem dX10_drawRow_3 : decode cX10_drawRow 3 = .ok (.dstore_n 2, 1) := by decide +kernel
theorem dX10_drawRow_4 : decode cX10_drawRow 4 = .ok (.iconst 0, 1) := by decide +kernel
theorem dX10_drawRow_5 : decode cX10_drawRow 5 = .ok (.istore 4, 2) := by decide +kernel
theorem dX10_drawRow_7 : decode cX10_drawRow 7 = .ok (.iload 4, 2) := by decide +kernel
theorem dX10_drawRow_9 : decode cX10_drawRow 9 = .ok (.aload_n 0, 1) := by decide +kernel
theorem dX10_drawRow_10 : decode cX10_drawRow 10 = .ok (.getfield 7, 3) := by decide +kernel
theorem dX10_drawRow_13 : decode cX10_drawRow 13 = .ok (.iconst 0, 1) := by decide +kernel
theorem dX10_drawRow_14 : decode cX10_drawRow 14 = .ok (.iaload, 1) := by decide +kernel
theorem dX10_drawRow_15 : decode cX10_drawRow 15 = .ok (.if_icmp .ge 43, 3) := by decide +kernel
theorem dX10_drawRow_18 : decode cX10_drawRow 18 = .ok (.aload_n 0, 1) := by decide +kernel
theorem dX10_drawRow_19 : decode cX10_drawRow 19 = .ok (.iload 4, 2) := by decide +kernel
theorem dX10_drawRow_21 : decode cX10_drawRow 21 = .ok (.invokevirtual 71, 3) := by decide +kernel
theorem dX10_drawRow_24 : decode cX10_drawRow 24 = .ok (.istore 5, 2) := by decide +kernel
theorem dX10_drawRow_26 : decode cX10_drawRow 26 = .ok (.aload_n 0, 1) := by decide +kernel
theorem dX10_drawRow_27 : decode cX10_drawRow 27 = .ok (.getfield 7, 3) := by decide +kernel
theorem dX10_drawRow_30 : decode cX10_drawRow 30 = .ok (.iconst 5, 1) := by decide +kernel
theorem dX10_drawRow_31 : decode cX10_drawRow 31 = .ok (.iload 4, 2) := by decide +kernel
theorem dX10_drawRow_33 : decode cX10_drawRow 33 = .ok (.iadd, 1) := by decide +kernel
theorem dX10_drawRow_34 : decode cX10_drawRow 34 = .ok (.iload 5, 2) := by decide +kernel
theorem dX10_drawRow_36 : decode cX10_drawRow 36 = .ok (.iastore, 1) := by decide +kernel
theorem dX10_drawRow_37 : decode cX10_drawRow 37 = .ok (.iload_n 1, 1) := by decide +kernel
theorem dX10_drawRow_38 : decode cX10_drawRow 38 = .ok (.iload 5, 2) := by decide +kernel
theorem dX10_drawRow_40 : decode cX10_drawRow 40 = .ok (.iadd, 1) := by decide +kernel
theorem dX10_drawRow_41 : decode cX10_drawRow 41 = .ok (.istore_n 1, 1) := by decide +kernel
theorem dX10_drawRow_42 : decode cX10_drawRow 42 = .ok (.aload_n 0, 1) := by decide +kernel
theorem dX10_drawRow_43 : decode cX10_drawRow 43 = .ok (.dload_n 2, 1) := by decide +kernel
theorem dX10_drawRow_44 : decode cX10_drawRow 44 = .ok (.iload 4, 2) := by decide +kernel
theorem dX10_drawRow_46 : decode cX10_drawRow 46 = .ok (.iload 5, 2) := by decide +kernel
theorem dX10_drawRow_48 : decode cX10_drawRow 48 = .ok (.invokevirtual 74, 3) := by decide +kernel
theorem dX10_drawRow_51 : decode cX10_drawRow 51 = .ok (.dstore_n 2, 1) := by decide +kernel
theorem dX10_drawRow_52 : decode cX10_drawRow 52 = .ok (.iinc 4 1, 3) := by decide +kernel
theorem dX10_drawRow_55 : decode cX10_drawRow 55 = .ok (.goto (-48), 3) := by decide +kernel
theorem dX10_drawRow_58 : decode cX10_drawRow 58 = .ok (.iload_n 1, 1) := by decide +kernel
theorem dX10_drawRow_59 : decode cX10_drawRow 59 = .ok (.aload_n 0, 1) := by decide +kernel
theorem dX10_drawRow_60 : decode cX10_drawRow 60 = .ok (.getfield 7, 3) := by decide +kernel
theorem dX10_drawRow_63 : decode cX10_drawRow 63 = .ok (.iconst 1, 1) := by decide +kernel
theorem dX10_drawRow_64 : decode cX10_drawRow 64 = .ok (.iaload, 1) := by decide +kernel
theorem dX10_drawRow_65 : decode cX10_drawRow 65 = .ok (.if_icmp .lt 7, 3) := by decide +kernel
theorem dX10_drawRow_68 : decode cX10_drawRow 68 = .ok (.iconst 1, 1) := by decide +kernel
theorem dX10_drawRow_69 : decode cX10_drawRow 69 = .ok (.goto 4, 3) := by decide +kernel
theorem dX10_drawRow_72 : decode cX10_drawRow 72 = .ok (.iconst 0, 1) := by decide +kernel
theorem dX10_drawRow_73 : decode cX10_drawRow 73 = .ok (.istore 4, 2) := by decide +kernel
theorem dX10_drawRow_75 : decode cX10_drawRow 75 = .ok (.aload_n 0, 1) := by decide +kernel
theorem dX10_drawRow_76 : decode cX10_drawRow 76 = .ok (.getfield 7, 3) := by decide +kernel
theorem dX10_drawRow_79 : decode cX10_drawRow 79 = .ok (.iconst 3, 1) := by decide +kernel
theorem dX10_drawRow_80 : decode cX10_drawRow 80 = .ok (.dup2, 1) := by decide +kernel
theorem dX10_drawRow_81 : decode cX10_drawRow 81 = .ok (.iaload, 1) := by decide +kernel
theorem dX10_drawRow_82 : decode cX10_drawRow 82 = .ok (.iconst 1, 1) := by decide +kernel
theorem dX10_drawRow_83 : decode cX10_drawRow 83 = .ok (.iadd, 1) := by decide +kernel
theorem dX10_drawRow_84 : decode cX10_drawRow 84 = .ok (.iastore, 1) := by decide +kernel
theorem dX10_drawRow_85 : decode cX10_drawRow 85 = .ok (.aload_n 0, 1) := by decide +kernel
theorem dX10_drawRow_86 : decode cX10_drawRow 86 = .ok (.getfield 7, 3) := by decide +kernel
theorem dX10_drawRow_89 : decode cX10_drawRow 89 = .ok (.iconst 4, 1) := by decide +kernel
theorem dX10_drawRow_90 : decode cX10_drawRow 90 = .ok (.dup2, 1) := by decide +kernel
theorem dX10_drawRow_91 : decode cX10_drawRow 91 = .ok (.iaload, 1) := by decide +kernel
theorem dX10_drawRow_92 : decode cX10_drawRow 92 = .ok (.iload 4, 2) := by decide +kernel
theorem dX10_drawRow_94 : decode cX10_drawRow 94 = .ok (.iadd, 1) := by decide +kernel
theorem dX10_drawRow_95 : decode cX10_drawRow 95 = .ok (.iastore, 1) := by decide +kernel
theorem dX10_drawRow_96 : decode cX10_drawRow 96 = .ok (.aload_n 0, 1) := by decide +kernel
theorem dX10_drawRow_97 : decode cX10_drawRow 97 = .ok (.getfield 13, 3) := by decide +kernel
theorem dX10_drawRow_100 : decode cX10_drawRow 100 = .ok (.iconst 0, 1) := by decide +kernel
theorem dX10_drawRow_101 : decode cX10_drawRow 101 = .ok (.dup2, 1) := by decide +kernel
theorem dX10_drawRow_102 : decode cX10_drawRow 102 = .ok (.daload, 1) := by decide +kernel
theorem dX10_drawRow_103 : decode cX10_drawRow 103 = .ok (.iload 4, 2) := by decide +kernel
theorem dX10_drawRow_105 : decode cX10_drawRow 105 = .ok (.iconst 1, 1) := by decide +kernel
theorem dX10_drawRow_106 : decode cX10_drawRow 106 = .ok (.if_icmp .ne 7, 3) := by decide +kernel
theorem dX10_drawRow_109 : decode cX10_drawRow 109 = .ok (.dload_n 2, 1) := by decide +kernel
theorem dX10_drawRow_110 : decode cX10_drawRow 110 = .ok (.goto 4, 3) := by decide +kernel
theorem dX10_drawRow_113 : decode cX10_drawRow 113 = .ok (.dconst 0, 1) := by decide +kernel
theorem dX10_drawRow_114 : decode cX10_drawRow 114 = .ok (.dadd, 1) := by decide +kernel
theorem dX10_drawRow_115 : decode cX10_drawRow 115 = .ok (.dastore, 1) := by decide +kernel
theorem dX10_drawRow_116 : decode cX10_drawRow 116 = .ok (.aload_n 0, 1) := by decide +kernel
theorem dX10_drawRow_117 : decode cX10_drawRow 117 = .ok (.getfield 13, 3) := by decide +kernel
theorem dX10_drawRow_120 : decode cX10_drawRow 120 = .ok (.iconst 1, 1) := by decide +kernel
theorem dX10_drawRow_121 : decode cX10_drawRow 121 = .ok (.dup2, 1) := by decide +kernel
theorem dX10_drawRow_122 : decode cX10_drawRow 122 = .ok (.daload, 1) := by decide +kernel
theorem dX10_drawRow_123 : decode cX10_drawRow 123 = .ok (.dload_n 2, 1) := by decide +kernel
theorem dX10_drawRow_124 : decode cX10_drawRow 124 = .ok (.dadd, 1) := by decide +kernel
theorem dX10_drawRow_125 : decode cX10_drawRow 125 = .ok (.dastore, 1) := by decide +kernel
theorem dX10_drawRow_126 : decode cX10_drawRow 126 = .ok (.aload_n 0, 1) := by decide +kernel
theorem dX10_drawRow_127 : decode cX10_drawRow 127 = .ok (.getfield 13, 3) := by decide +kernel
theorem dX10_drawRow_130 : decode cX10_drawRow 130 = .ok (.iconst 2, 1) := by decide +kernel
theorem dX10_drawRow_131 : decode cX10_drawRow 131 = .ok (.dup2, 1) := by decide +kernel
theorem dX10_drawRow_132 : decode cX10_drawRow 132 = .ok (.daload, 1) := by decide +kernel
theorem dX10_drawRow_133 : decode cX10_drawRow 133 = .ok (.dload_n 2, 1) := by decide +kernel
theorem dX10_drawRow_134 : decode cX10_drawRow 134 = .ok (.dload_n 2, 1) := by decide +kernel
theorem dX10_drawRow_135 : decode cX10_drawRow 135 = .ok (.dmul, 1) := by decide +kernel
theorem dX10_drawRow_136 : decode cX10_drawRow 136 = .ok (.dadd, 1) := by decide +kernel
theorem dX10_drawRow_137 : decode cX10_drawRow 137 = .ok (.dastore, 1) := by decide +kernel
theorem dX10_drawRow_138 : decode cX10_drawRow 138 = .ok (.aload_n 0, 1) := by decide +kernel
theorem dX10_drawRow_139 : decode cX10_drawRow 139 = .ok (.getfield 13, 3) := by decide +kernel
theorem dX10_drawRow_142 : decode cX10_drawRow 142 = .ok (.iconst 3, 1) := by decide +kernel
theorem dX10_drawRow_143 : decode cX10_drawRow 143 = .ok (.dload_n 2, 1) := by decide +kernel
theorem dX10_drawRow_144 : decode cX10_drawRow 144 = .ok (.dastore, 1) := by decide +kernel
theorem dX10_drawRow_145 : decode cX10_drawRow 145 = .ok (.iload 4, 2) := by decide +kernel
theorem dX10_drawRow_147 : decode cX10_drawRow 147 = .ok (.ireturn, 1) := by decide +kernel
theorem dX10_layWays_0 : decode cX10_layWays 0 = .ok (.iconst 0, 1) := by decide +kernel
theorem dX10_layWays_1 : decode cX10_layWays 1 = .ok (.istore_n 2, 1) := by decide +kernel
theorem dX10_layWays_2 : decode cX10_layWays 2 = .ok (.iload_n 2, 1) := by decide +kernel
theorem dX10_layWays_3 : decode cX10_layWays 3 = .ok (.bipush 31, 2) := by decide +kernel
theorem dX10_layWays_5 : decode cX10_layWays 5 = .ok (.if_icmp .ge 24, 3) := by decide +kernel
theorem dX10_layWays_8 : decode cX10_layWays 8 = .ok (.aload_n 0, 1) := by decide +kernel
theorem dX10_layWays_9 : decode cX10_layWays 9 = .ok (.getfield 26, 3) := by decide +kernel
theorem dX10_layWays_12 : decode cX10_layWays 12 = .ok (.iload_n 2, 1) := by decide +kernel
theorem dX10_layWays_13 : decode cX10_layWays 13 = .ok (.iload_n 2, 1) := by decide +kernel
theorem dX10_layWays_14 : decode cX10_layWays 14 = .ok (.ifCond .ne 7, 3) := by decide +kernel
theorem dX10_layWays_17 : decode cX10_layWays 17 = .ok (.lconst 1, 1) := by decide +kernel
theorem dX10_layWays_18 : decode cX10_layWays 18 = .ok (.goto 4, 3) := by decide +kernel
theorem dX10_layWays_21 : decode cX10_layWays 21 = .ok (.lconst 0, 1) := by decide +kernel
theorem dX10_layWays_22 : decode cX10_layWays 22 = .ok (.lastore, 1) := by decide +kernel
theorem dX10_layWays_23 : decode cX10_layWays 23 = .ok (.iinc 2 1, 3) := by decide +kernel
theorem dX10_layWays_26 : decode cX10_layWays 26 = .ok (.goto (-24), 3) := by decide +kernel
theorem dX10_layWays_29 : decode cX10_layWays 29 = .ok (.iconst 0, 1) := by decide +kernel
theorem dX10_layWays_30 : decode cX10_layWays 30 = .ok (.istore_n 2, 1) := by decide +kernel
theorem dX10_layWays_31 : decode cX10_layWays 31 = .ok (.iload_n 2, 1) := by decide +kernel
theorem dX10_layWays_32 : decode cX10_layWays 32 = .ok (.aload_n 0, 1) := by decide +kernel
theorem dX10_layWays_33 : decode cX10_layWays 33 = .ok (.getfield 7, 3) := by decide +kernel
theorem dX10_layWays_36 : decode cX10_layWays 36 = .ok (.iconst 0, 1) := by decide +kernel
theorem dX10_layWays_37 : decode cX10_layWays 37 = .ok (.iaload, 1) := by decide +kernel
theorem dX10_layWays_38 : decode cX10_layWays 38 = .ok (.if_icmp .ge 19, 3) := by decide +kernel
theorem dX10_layWays_41 : decode cX10_layWays 41 = .ok (.iload_n 2, 1) := by decide +kernel
theorem dX10_layWays_42 : decode cX10_layWays 42 = .ok (.iload_n 1, 1) := by decide +kernel
theorem dX10_layWays_43 : decode cX10_layWays 43 = .ok (.if_icmp .eq 8, 3) := by decide +kernel
theorem dX10_layWays_46 : decode cX10_layWays 46 = .ok (.aload_n 0, 1) := by decide +kernel
theorem dX10_layWays_47 : decode cX10_layWays 47 = .ok (.iload_n 2, 1) := by decide +kernel
theorem dX10_layWays_48 : decode cX10_layWays 48 = .ok (.invokevirtual 78, 3) := by decide +kernel
theorem dX10_layWays_51 : decode cX10_layWays 51 = .ok (.iinc 2 1, 3) := by decide +kernel
theorem dX10_layWays_54 : decode cX10_layWays 54 = .ok (.goto (-23), 3) := by decide +kernel
theorem dX10_layWays_57 : decode cX10_layWays 57 = .ok (.return_, 1) := by decide +kernel
theorem dX10_addPartWays_0 : decode cX10_addPartWays 0 = .ok (.bipush 30, 2) := by decide +kernel
theorem dX10_addPartWays_2 : decode cX10_addPartWays 2 = .ok (.istore_n 2, 1) := by decide +kernel
theorem dX10_addPartWays_3 : decode cX10_addPartWays 3 = .ok (.iload_n 2, 1) := by decide +kernel
theorem dX10_addPartWays_4 : decode cX10_addPartWays 4 = .ok (.ifCond .lt 61, 3) := by decide +kernel
theorem dX10_addPartWays_7 : decode cX10_addPartWays 7 = .ok (.lconst 0, 1) := by decide +kernel
theorem dX10_addPartWays_8 : decode cX10_addPartWays 8 = .ok (.lstore_n 3, 1) := by decide +kernel
theorem dX10_addPartWays_9 : decode cX10_addPartWays 9 = .ok (.iconst 0, 1) := by decide +kernel
theorem dX10_addPartWays_10 : decode cX10_addPartWays 10 = .ok (.istore 5, 2) := by decide +kernel
theorem dX10_addPartWays_12 : decode cX10_addPartWays 12 = .ok (.iload 5, 2) := by decide +kernel
theorem dX10_addPartWays_14 : decode cX10_addPartWays 14 = .ok (.bipush 6, 2) := by decide +kernel
theorem dX10_addPartWays_16 : decode cX10_addPartWays 16 = .ok (.if_icmp .ge 36, 3) := by decide +kernel
theorem dX10_addPartWays_19 : decode cX10_addPartWays 19 = .ok (.iload 5, 2) := by decide +kernel
theorem dX10_addPartWays_21 : decode cX10_addPartWays 21 = .ok (.iload_n 2, 1) := by decide +kernel
theorem dX10_addPartWays_22 : decode cX10_addPartWays 22 = .ok (.if_icmp .gt 30, 3) := by decide +kernel
theorem dX10_addPartWays_25 : decode cX10_addPartWays 25 = .ok (.lload_n 3, 1) := by decide +kernel
theorem dX10_addPartWays_26 : decode cX10_addPartWays 26 = .ok (.aload_n 0, 1) := by decide +kernel
theorem dX10_addPartWays_27 : decode cX10_addPartWays 27 = .ok (.getfield 26, 3) := by decide +kernel
theorem dX10_addPartWays_30 : decode cX10_addPartWays 30 = .ok (.iload_n 2, 1) := by decide +kernel
theorem dX10_addPartWays_31 : decode cX10_addPartWays 31 = .ok (.iload 5, 2) := by decide +kernel
theorem dX10_addPartWays_33 : decode cX10_addPartWays 33 = .ok (.isub, 1) := by decide +kernel
theorem dX10_addPartWays_34 : decode cX10_addPartWays 34 = .ok (.laload, 1) := by decide +kernel
theorem dX10_addPartWays_35 : decode cX10_addPartWays 35 = .ok (.aload_n 0, 1) := by decide +kernel
theorem dX10_addPartWays_36 : decode cX10_addPartWays 36 = .ok (.iload_n 1, 1) := by decide +kernel
theorem dX10_addPartWays_37 : decode cX10_addPartWays 37 = .ok (.iload 5, 2) := by decide +kernel
theorem dX10_addPartWays_39 : decode cX10_addPartWays 39 = .ok (.invokevirtual 50, 3) := by decide +kernel
theorem dX10_addPartWays_42 : decode cX10_addPartWays 42 = .ok (.i2l, 1) := by decide +kernel
theorem dX10_addPartWays_43 : decode cX10_addPartWays 43 = .ok (.lmul, 1) := by decide +kernel
theorem dX10_addPartWays_44 : decode cX10_addPartWays 44 = .ok (.ladd, 1) := by decide +kernel
theorem dX10_addPartWays_45 : decode cX10_addPartWays 45 = .ok (.lstore_n 3, 1) := by decide +kernel
theorem dX10_addPartWays_46 : decode cX10_addPartWays 46 = .ok (.iinc 5 1, 3) := by decide +kernel
theorem dX10_addPartWays_49 : decode cX10_addPartWays 49 = .ok (.goto (-37), 3) := by decide +kernel
theorem dX10_addPartWays_52 : decode cX10_addPartWays 52 = .ok (.aload_n 0, 1) := by decide +kernel
theorem dX10_addPartWays_53 : decode cX10_addPartWays 53 = .ok (.getfield 26, 3) := by decide +kernel
theorem dX10_addPartWays_56 : decode cX10_addPartWays 56 = .ok (.iload_n 2, 1) := by decide +kernel
theorem dX10_addPartWays_57 : decode cX10_addPartWays 57 = .ok (.lload_n 3, 1) := by decide +kernel
theorem dX10_addPartWays_58 : decode cX10_addPartWays 58 = .ok (.lastore, 1) := by decide +kernel
theorem dX10_addPartWays_59 : decode cX10_addPartWays 59 = .ok (.iinc 2 (-1), 3) := by decide +kernel
theorem dX10_addPartWays_62 : decode cX10_addPartWays 62 = .ok (.goto (-59), 3) := by decide +kernel
theorem dX10_addPartWays_65 : decode cX10_addPartWays 65 = .ok (.return_, 1) := by decide +kernel
theorem dX10_waysFrom_0 : decode cX10_waysFrom 0 = .ok (.lconst 0, 1) := by decide +kernel
theorem dX10_waysFrom_1 : decode cX10_waysFrom 1 = .ok (.lstore_n 2, 1) := by decide +kernel
theorem dX10_waysFrom_2 : decode cX10_waysFrom 2 = .ok (.iload_n 1, 1) := by decide +kernel
theorem dX10_waysFrom_3 : decode cX10_waysFrom 3 = .ok (.istore 4, 2) := by decide +kernel
theorem dX10_waysFrom_5 : decode cX10_waysFrom 5 = .ok (.iload 4, 2) := by decide +kernel
theorem dX10_waysFrom_7 : decode cX10_waysFrom 7 = .ok (.bipush 31, 2) := by decide +kernel
theorem dX10_waysFrom_9 : decode cX10_waysFrom 9 = .ok (.if_icmp .ge 19, 3) := by decide +kernel
theorem dX10_waysFrom_12 : decode cX10_waysFrom 12 = .ok (.lload_n 2, 1) := by decide +kernel
theorem dX10_waysFrom_13 : decode cX10_waysFrom 13 = .ok (.aload_n 0, 1) := by decide +kernel
theorem dX10_waysFrom_14 : decode cX10_waysFrom 14 = .ok (.getfield 26, 3) := by decide +kernel
theorem dX10_waysFrom_17 : decode cX10_waysFrom 17 = .ok (.iload 4, 2) := by decide +kernel
theorem dX10_waysFrom_19 : decode cX10_waysFrom 19 = .ok (.laload, 1) := by decide +kernel
theorem dX10_waysFrom_20 : decode cX10_waysFrom 20 = .ok (.ladd, 1) := by decide +kernel
theorem dX10_waysFrom_21 : decode cX10_waysFrom 21 = .ok (.lstore_n 2, 1) := by decide +kernel
theorem dX10_waysFrom_22 : decode cX10_waysFrom 22 = .ok (.iinc 4 1, 3) := by decide +kernel
theorem dX10_waysFrom_25 : decode cX10_waysFrom 25 = .ok (.goto (-20), 3) := by decide +kernel
theorem dX10_waysFrom_28 : decode cX10_waysFrom 28 = .ok (.lload_n 2, 1) := by decide +kernel
theorem dX10_waysFrom_29 : decode cX10_waysFrom 29 = .ok (.lreturn, 1) := by decide +kernel
theorem dX10_oddsBy_0 : decode cX10_oddsBy 0 = .ok (.aload_n 0, 1) := by decide +kernel
theorem dX10_oddsBy_1 : decode cX10_oddsBy 1 = .ok (.iload_n 2, 1) := by decide +kernel
theorem dX10_oddsBy_2 : decode cX10_oddsBy 2 = .ok (.invokevirtual 82, 3) := by decide +kernel
theorem dX10_oddsBy_5 : decode cX10_oddsBy 5 = .ok (.aload_n 0, 1) := by decide +kernel
theorem dX10_oddsBy_6 : decode cX10_oddsBy 6 = .ok (.iload_n 1, 1) := by decide +kernel
theorem dX10_oddsBy_7 : decode cX10_oddsBy 7 = .ok (.invokevirtual 85, 3) := by decide +kernel
theorem dX10_oddsBy_10 : decode cX10_oddsBy 10 = .ok (.l2d, 1) := by decide +kernel
theorem dX10_oddsBy_11 : decode cX10_oddsBy 11 = .ok (.aload_n 0, 1) := by decide +kernel
theorem dX10_oddsBy_12 : decode cX10_oddsBy 12 = .ok (.iconst 0, 1) := by decide +kernel
theorem dX10_oddsBy_13 : decode cX10_oddsBy 13 = .ok (.invokevirtual 85, 3) := by decide +kernel
theorem dX10_oddsBy_16 : decode cX10_oddsBy 16 = .ok (.l2d, 1) := by decide +kernel
theorem dX10_oddsBy_17 : decode cX10_oddsBy 17 = .ok (.ddiv, 1) := by decide +kernel
theorem dX10_oddsBy_18 : decode cX10_oddsBy 18 = .ok (.dreturn, 1) := by decide +kernel
theorem dX10_layMost_0 : decode cX10_layMost 0 = .ok (.iconst 0, 1) := by decide +kernel
theorem dX10_layMost_1 : decode cX10_layMost 1 = .ok (.istore_n 1, 1) := by decide +kernel
theorem dX10_layMost_2 : decode cX10_layMost 2 = .ok (.iload_n 1, 1) := by decide +kernel
theorem dX10_layMost_3 : decode cX10_layMost 3 = .ok (.bipush 99, 2) := by decide +kernel
theorem dX10_layMost_5 : decode cX10_layMost 5 = .ok (.if_icmp .gt 34, 3) := by decide +kernel
theorem dX10_layMost_8 : decode cX10_layMost 8 = .ok (.aload_n 0, 1) := by decide +kernel
theorem dX10_layMost_9 : decode cX10_layMost 9 = .ok (.getfield 30, 3) := by decide +kernel
theorem dX10_layMost_12 : decode cX10_layMost 12 = .ok (.bipush 100, 2) := by decide +kernel
theorem dX10_layMost_14 : decode cX10_layMost 14 = .ok (.aload_n 0, 1) := by decide +kernel
theorem dX10_layMost_15 : decode cX10_layMost 15 = .ok (.getfield 7, 3) := by decide +kernel
theorem dX10_layMost_18 : decode cX10_layMost 18 = .ok (.iconst 0, 1) := by decide +kernel
theorem dX10_layMost_19 : decode cX10_layMost 19 = .ok (.iaload, 1) := by decide +kernel
theorem dX10_layMost_20 : decode cX10_layMost 20 = .ok (.imul, 1) := by decide +kernel
theorem dX10_layMost_21 : decode cX10_layMost 21 = .ok (.iload_n 1, 1) := by decide +kernel
theorem dX10_layMost_22 : decode cX10_layMost 22 = .ok (.iadd, 1) := by decide +kernel
theorem dX10_layMost_23 : decode cX10_layMost 23 = .ok (.iload_n 1, 1) := by decide +kernel
theorem dX10_layMost_24 : decode cX10_layMost 24 = .ok (.ifCond .ne 7, 3) := by decide +kernel
theorem dX10_layMost_27 : decode cX10_layMost 27 = .ok (.iconst 1, 1) := by decide +kernel
theorem dX10_layMost_28 : decode cX10_layMost 28 = .ok (.goto 4, 3) := by decide +kernel
theorem dX10_layMost_31 : decode cX10_layMost 31 = .ok (.iconst 0, 1) := by decide +kernel
theorem dX10_layMost_32 : decode cX10_layMost 32 = .ok (.iastore, 1) := by decide +kernel
theorem dX10_layMost_33 : decode cX10_layMost 33 = .ok (.iinc 1 1, 3) := by decide +kernel
theorem dX10_layMost_36 : decode cX10_layMost 36 = .ok (.goto (-34), 3) := by decide +kernel
theorem dX10_layMost_39 : decode cX10_layMost 39 = .ok (.aload_n 0, 1) := by decide +kernel
theorem dX10_layMost_40 : decode cX10_layMost 40 = .ok (.getfield 7, 3) := by decide +kernel
theorem dX10_layMost_43 : decode cX10_layMost 43 = .ok (.iconst 0, 1) := by decide +kernel
theorem dX10_layMost_44 : decode cX10_layMost 44 = .ok (.iaload, 1) := by decide +kernel
theorem dX10_layMost_45 : decode cX10_layMost 45 = .ok (.iconst 1, 1) := by decide +kernel
theorem dX10_layMost_46 : decode cX10_layMost 46 = .ok (.isub, 1) := by decide +kernel
theorem dX10_layMost_47 : decode cX10_layMost 47 = .ok (.istore_n 1, 1) := by decide +kernel
theorem dX10_layMost_48 : decode cX10_layMost 48 = .ok (.iload_n 1, 1) := by decide +kernel
theorem dX10_layMost_49 : decode cX10_layMost 49 = .ok (.ifCond .lt 76, 3) := by decide +kernel
theorem dX10_layMost_52 : decode cX10_layMost 52 = .ok (.iconst 0, 1) := by decide +kernel
theorem dX10_layMost_53 : decode cX10_layMost 53 = .ok (.istore_n 2, 1) := by decide +kernel
theorem dX10_layMost_54 : decode cX10_layMost 54 = .ok (.iload_n 2, 1) := by decide +kernel
theorem dX10_layMost_55 : decode cX10_layMost 55 = .ok (.bipush 99, 2) := by decide +kernel
theorem dX10_layMost_57 : decode cX10_layMost 57 = .ok (.if_icmp .gt 62, 3) := by decide +kernel
theorem dX10_layMost_60 : decode cX10_layMost 60 = .ok (.iconst 0, 1) := by decide +kernel
theorem dX10_layMost_61 : decode cX10_layMost 61 = .ok (.istore_n 3, 1) := by decide +kernel
theorem dX10_layMost_62 : decode cX10_layMost 62 = .ok (.iconst 0, 1) := by decide +kernel
theorem dX10_layMost_63 : decode cX10_layMost 63 = .ok (.istore 4, 2) := by decide +kernel
theorem dX10_layMost_65 : decode cX10_layMost 65 = .ok (.iload 4, 2) := by decide +kernel
theorem dX10_layMost_67 : decode cX10_layMost 67 = .ok (.bipush 6, 2) := by decide +kernel
theorem dX10_layMost_69 : decode cX10_layMost 69 = .ok (.if_icmp .ge 32, 3) := by decide +kernel
theorem dX10_layMost_72 : decode cX10_layMost 72 = .ok (.aload_n 0, 1) := by decide +kernel
theorem dX10_layMost_73 : decode cX10_layMost 73 = .ok (.iload_n 1, 1) := by decide +kernel
theorem dX10_layMost_74 : decode cX10_layMost 74 = .ok (.iload_n 2, 1) := by decide +kernel
theorem dX10_layMost_75 : decode cX10_layMost 75 = .ok (.iload 4, 2) := by decide +kernel
theorem dX10_layMost_77 : decode cX10_layMost 77 = .ok (.invokevirtual 89, 3) := by decide +kernel
theorem dX10_layMost_80 : decode cX10_layMost 80 = .ok (.istore 5, 2) := by decide +kernel
theorem dX10_layMost_82 : decode cX10_layMost 82 = .ok (.iload 5, 2) := by decide +kernel
theorem dX10_layMost_84 : decode cX10_layMost 84 = .ok (.iload_n 3, 1) := by decide +kernel
theorem dX10_layMost_85 : decode cX10_layMost 85 = .ok (.if_icmp .le 8, 3) := by decide +kernel
theorem dX10_layMost_88 : decode cX10_layMost 88 = .ok (.iload 5, 2) := by decide +kernel
theorem dX10_layMost_90 : decode cX10_layMost 90 = .ok (.goto 4, 3) := by decide +kernel
theorem dX10_layMost_93 : decode cX10_layMost 93 = .ok (.iload_n 3, 1) := by decide +kernel
theorem dX10_layMost_94 : decode cX10_layMost 94 = .ok (.istore_n 3, 1) := by decide +kernel
theorem dX10_layMost_95 : decode cX10_layMost 95 = .ok (.iinc 4 1, 3) := by decide +kernel
theorem dX10_layMost_98 : decode cX10_layMost 98 = .ok (.goto (-33), 3) := by decide +kernel
theorem dX10_layMost_101 : decode cX10_layMost 101 = .ok (.aload_n 0, 1) := by decide +kernel
theorem dX10_layMost_102 : decode cX10_layMost 102 = .ok (.getfield 30, 3) := by decide +kernel
theorem dX10_layMost_105 : decode cX10_layMost 105 = .ok (.bipush 100, 2) := by decide +kernel
theorem dX10_layMost_107 : decode cX10_layMost 107 = .ok (.iload_n 1, 1) := by decide +kernel
theorem dX10_layMost_108 : decode cX10_layMost 108 = .ok (.imul, 1) := by decide +kernel
theorem dX10_layMost_109 : decode cX10_layMost 109 = .ok (.iload_n 2, 1) := by decide +kernel
theorem dX10_layMost_110 : decode cX10_layMost 110 = .ok (.iadd, 1) := by decide +kernel
theorem dX10_layMost_111 : decode cX10_layMost 111 = .ok (.iload_n 3, 1) := by decide +kernel
theorem dX10_layMost_112 : decode cX10_layMost 112 = .ok (.iastore, 1) := by decide +kernel
theorem dX10_layMost_113 : decode cX10_layMost 113 = .ok (.iinc 2 1, 3) := by decide +kernel
theorem dX10_layMost_116 : decode cX10_layMost 116 = .ok (.goto (-62), 3) := by decide +kernel
theorem dX10_layMost_119 : decode cX10_layMost 119 = .ok (.iinc 1 (-1), 3) := by decide +kernel
theorem dX10_layMost_122 : decode cX10_layMost 122 = .ok (.goto (-74), 3) := by decide +kernel
theorem dX10_layMost_125 : decode cX10_layMost 125 = .ok (.return_, 1) := by decide +kernel
theorem dX10_mostBy_0 : decode cX10_mostBy 0 = .ok (.iload_n 2, 1) := by decide +kernel
theorem dX10_mostBy_1 : decode cX10_mostBy 1 = .ok (.iload_n 3, 1) := by decide +kernel
theorem dX10_mostBy_2 : decode cX10_mostBy 2 = .ok (.if_icmp .le 9, 3) := by decide +kernel
theorem dX10_mostBy_5 : decode cX10_mostBy 5 = .ok (.iload_n 2, 1) := by decide +kernel
theorem dX10_mostBy_6 : decode cX10_mostBy 6 = .ok (.iload_n 3, 1) := by decide +kernel
theorem dX10_mostBy_7 : decode cX10_mostBy 7 = .ok (.isub, 1) := by decide +kernel
theorem dX10_mostBy_8 : decode cX10_mostBy 8 = .ok (.goto 4, 3) := by decide +kernel
theorem dX10_mostBy_11 : decode cX10_mostBy 11 = .ok (.iconst 0, 1) := by decide +kernel
theorem dX10_mostBy_12 : decode cX10_mostBy 12 = .ok (.istore 4, 2) := by decide +kernel
theorem dX10_mostBy_14 : decode cX10_mostBy 14 = .ok (.aload_n 0, 1) := by decide +kernel
theorem dX10_mostBy_15 : decode cX10_mostBy 15 = .ok (.iload_n 1, 1) := by decide +kernel
theorem dX10_mostBy_16 : decode cX10_mostBy 16 = .ok (.iload_n 3, 1) := by decide +kernel
theorem dX10_mostBy_17 : decode cX10_mostBy 17 = .ok (.invokevirtual 50, 3) := by decide +kernel
theorem dX10_mostBy_20 : decode cX10_mostBy 20 = .ok (.aload_n 0, 1) := by decide +kernel
theorem dX10_mostBy_21 : decode cX10_mostBy 21 = .ok (.getfield 30, 3) := by decide +kernel
theorem dX10_mostBy_24 : decode cX10_mostBy 24 = .ok (.bipush 100, 2) := by decide +kernel
theorem dX10_mostBy_26 : decode cX10_mostBy 26 = .ok (.iload_n 1, 1) := by decide +kernel
theorem dX10_mostBy_27 : decode cX10_mostBy 27 = .ok (.imul, 1) := by decide +kernel
theorem dX10_mostBy_28 : decode cX10_mostBy 28 = .ok (.bipush 100, 2) := by decide +kernel
theorem dX10_mostBy_30 : decode cX10_mostBy 30 = .ok (.iadd, 1) := by decide +kernel
theorem dX10_mostBy_31 : decode cX10_mostBy 31 = .ok (.iload 4, 2) := by decide +kernel
theorem dX10_mostBy_33 : decode cX10_mostBy 33 = .ok (.iadd, 1) := by decide +kernel
theorem dX10_mostBy_34 : decode cX10_mostBy 34 = .ok (.iaload, 1) := by decide +kernel
theorem dX10_mostBy_35 : decode cX10_mostBy 35 = .ok (.imul, 1) := by decide +kernel
theorem dX10_mostBy_36 : decode cX10_mostBy 36 = .ok (.ireturn, 1) := by decide +kernel
theorem dX10_likeliestWays_0 : decode cX10_likeliestWays 0 = .ok (.aload_n 0, 1) := by decide +kernel
theorem dX10_likeliestWays_1 : decode cX10_likeliestWays 1 = .ok (.invokevirtual 93, 3) := by decide +kernel
theorem dX10_likeliestWays_4 : decode cX10_likeliestWays 4 = .ok (.aload_n 0, 1) := by decide +kernel
theorem dX10_likeliestWays_5 : decode cX10_likeliestWays 5 = .ok (.getfield 30, 3) := by decide +kernel
theorem dX10_likeliestWays_8 : decode cX10_likeliestWays 8 = .ok (.aload_n 0, 1) := by decide +kernel
theorem dX10_likeliestWays_9 : decode cX10_likeliestWays 9 = .ok (.getfield 7, 3) := by decide +kernel
theorem dX10_likeliestWays_12 : decode cX10_likeliestWays 12 = .ok (.iconst 1, 1) := by decide +kernel
theorem dX10_likeliestWays_13 : decode cX10_likeliestWays 13 = .ok (.iaload, 1) := by decide +kernel
theorem dX10_likeliestWays_14 : decode cX10_likeliestWays 14 = .ok (.iaload, 1) := by decide +kernel
theorem dX10_likeliestWays_15 : decode cX10_likeliestWays 15 = .ok (.ireturn, 1) := by decide +kernel
theorem dX10_likeliestLoad_0 : decode cX10_likeliestLoad 0 = .ok (.aload_n 0, 1) := by decide +kernel
theorem dX10_likeliestLoad_1 : decode cX10_likeliestLoad 1 = .ok (.invokevirtual 96, 3) := by decide +kernel
theorem dX10_likeliestLoad_4 : decode cX10_likeliestLoad 4 = .ok (.ifCond .ne 5, 3) := by decide +kernel
theorem dX10_likeliestLoad_7 : decode cX10_likeliestLoad 7 = .ok (.iconst (-1), 1) := by decide +kernel
theorem dX10_likeliestLoad_8 : decode cX10_likeliestLoad 8 = .ok (.ireturn, 1) := by decide +kernel
theorem dX10_likeliestLoad_9 : decode cX10_likeliestLoad 9 = .ok (.aload_n 0, 1) := by decide +kernel
theorem dX10_likeliestLoad_10 : decode cX10_likeliestLoad 10 = .ok (.getfield 7, 3) := by decide +kernel
theorem dX10_likeliestLoad_13 : decode cX10_likeliestLoad 13 = .ok (.iconst 1, 1) := by decide +kernel
theorem dX10_likeliestLoad_14 : decode cX10_likeliestLoad 14 = .ok (.iaload, 1) := by decide +kernel
theorem dX10_likeliestLoad_15 : decode cX10_likeliestLoad 15 = .ok (.istore_n 2, 1) := by decide +kernel
theorem dX10_likeliestLoad_16 : decode cX10_likeliestLoad 16 = .ok (.iconst 0, 1) := by decide +kernel
theorem dX10_likeliestLoad_17 : decode cX10_likeliestLoad 17 = .ok (.istore_n 3, 1) := by decide +kernel
theorem dX10_likeliestLoad_18 : decode cX10_likeliestLoad 18 = .ok (.iconst 0, 1) := by decide +kernel
theorem dX10_likeliestLoad_19 : decode cX10_likeliestLoad 19 = .ok (.istore 4, 2) := by decide +kernel
theorem dX10_likeliestLoad_21 : decode cX10_likeliestLoad 21 = .ok (.iload 4, 2) := by decide +kernel
theorem dX10_likeliestLoad_23 : decode cX10_likeliestLoad 23 = .ok (.iload_n 1, 1) := by decide +kernel
theorem dX10_likeliestLoad_24 : decode cX10_likeliestLoad 24 = .ok (.if_icmp .gt 53, 3) := by decide +kernel
theorem dX10_likeliestLoad_27 : decode cX10_likeliestLoad 27 = .ok (.iconst 0, 1) := by decide +kernel
theorem dX10_likeliestLoad_28 : decode cX10_likeliestLoad 28 = .ok (.istore_n 3, 1) := by decide +kernel
theorem dX10_likeliestLoad_29 : decode cX10_likeliestLoad 29 = .ok (.aload_n 0, 1) := by decide +kernel
theorem dX10_likeliestLoad_30 : decode cX10_likeliestLoad 30 = .ok (.iload 4, 2) := by decide +kernel
theorem dX10_likeliestLoad_32 : decode cX10_likeliestLoad 32 = .ok (.iload_n 2, 1) := by decide +kernel
theorem dX10_likeliestLoad_33 : decode cX10_likeliestLoad 33 = .ok (.iload_n 3, 1) := by decide +kernel
theorem dX10_likeliestLoad_34 : decode cX10_likeliestLoad 34 = .ok (.invokevirtual 89, 3) := by decide +kernel
theorem dX10_likeliestLoad_37 : decode cX10_likeliestLoad 37 = .ok (.aload_n 0, 1) := by decide +kernel
theorem dX10_likeliestLoad_38 : decode cX10_likeliestLoad 38 = .ok (.getfield 30, 3) := by decide +kernel
theorem dX10_likeliestLoad_41 : decode cX10_likeliestLoad 41 = .ok (.bipush 100, 2) := by decide +kernel
theorem dX10_likeliestLoad_43 : decode cX10_likeliestLoad 43 = .ok (.iload 4, 2) := by decide +kernel
theorem dX10_likeliestLoad_45 : decode cX10_likeliestLoad 45 = .ok (.imul, 1) := by decide +kernel
theorem dX10_likeliestLoad_46 : decode cX10_likeliestLoad 46 = .ok (.iload_n 2, 1) := by decide +kernel
theorem dX10_likeliestLoad_47 : decode cX10_likeliestLoad 47 = .ok (.iadd, 1) := by decide +kernel
theorem dX10_likeliestLoad_48 : decode cX10_likeliestLoad 48 = .ok (.iaload, 1) := by decide +kernel
theorem dX10_likeliestLoad_49 : decode cX10_likeliestLoad 49 = .ok (.if_icmp .eq 9, 3) := by decide +kernel
theorem dX10_likeliestLoad_52 : decode cX10_likeliestLoad 52 = .ok (.iinc 3 1, 3) := by decide +kernel
theorem dX10_likeliestLoad_55 : decode cX10_likeliestLoad 55 = .ok (.goto (-26), 3) := by decide +kernel
theorem dX10_likeliestLoad_58 : decode cX10_likeliestLoad 58 = .ok (.iload_n 2, 1) := by decide +kernel
theorem dX10_likeliestLoad_59 : decode cX10_likeliestLoad 59 = .ok (.iload_n 3, 1) := by decide +kernel
theorem dX10_likeliestLoad_60 : decode cX10_likeliestLoad 60 = .ok (.if_icmp .le 9, 3) := by decide +kernel
theorem dX10_likeliestLoad_63 : decode cX10_likeliestLoad 63 = .ok (.iload_n 2, 1) := by decide +kernel
theorem dX10_likeliestLoad_64 : decode cX10_likeliestLoad 64 = .ok (.iload_n 3, 1) := by decide +kernel
theorem dX10_likeliestLoad_65 : decode cX10_likeliestLoad 65 = .ok (.isub, 1) := by decide +kernel
theorem dX10_likeliestLoad_66 : decode cX10_likeliestLoad 66 = .ok (.goto 4, 3) := by decide +kernel
theorem dX10_likeliestLoad_69 : decode cX10_likeliestLoad 69 = .ok (.iconst 0, 1) := by decide +kernel
theorem dX10_likeliestLoad_70 : decode cX10_likeliestLoad 70 = .ok (.istore_n 2, 1) := by decide +kernel
theorem dX10_likeliestLoad_71 : decode cX10_likeliestLoad 71 = .ok (.iinc 4 1, 3) := by decide +kernel
theorem dX10_likeliestLoad_74 : decode cX10_likeliestLoad 74 = .ok (.goto (-53), 3) := by decide +kernel
theorem dX10_likeliestLoad_77 : decode cX10_likeliestLoad 77 = .ok (.iload_n 3, 1) := by decide +kernel
theorem dX10_likeliestLoad_78 : decode cX10_likeliestLoad 78 = .ok (.ireturn, 1) := by decide +kernel
theorem dX10_layPart_0 : decode cX10_layPart 0 = .ok (.iconst 0, 1) := by decide +kernel
theorem dX10_layPart_1 : decode cX10_layPart 1 = .ok (.istore_n 2, 1) := by decide +kernel
theorem dX10_layPart_2 : decode cX10_layPart 2 = .ok (.iload_n 2, 1) := by decide +kernel
theorem dX10_layPart_3 : decode cX10_layPart 3 = .ok (.bipush 6, 2) := by decide +kernel
theorem dX10_layPart_5 : decode cX10_layPart 5 = .ok (.if_icmp .ge 29, 3) := by decide +kernel
theorem dX10_layPart_8 : decode cX10_layPart 8 = .ok (.aload_n 0, 1) := by decide +kernel
theorem dX10_layPart_9 : decode cX10_layPart 9 = .ok (.getfield 7, 3) := by decide +kernel
theorem dX10_layPart_12 : decode cX10_layPart 12 = .ok (.bipush 47, 2) := by decide +kernel
theorem dX10_layPart_14 : decode cX10_layPart 14 = .ok (.bipush 6, 2) := by decide +kernel
theorem dX10_layPart_16 : decode cX10_layPart 16 = .ok (.iload_n 1, 1) := by decide +kernel
theorem dX10_layPart_17 : decode cX10_layPart 17 = .ok (.imul, 1) := by decide +kernel
theorem dX10_layPart_18 : decode cX10_layPart 18 = .ok (.iadd, 1) := by decide +kernel
theorem dX10_layPart_19 : decode cX10_layPart 19 = .ok (.iload_n 2, 1) := by decide +kernel
theorem dX10_layPart_20 : decode cX10_layPart 20 = .ok (.iadd, 1) := by decide +kernel
theorem dX10_layPart_21 : decode cX10_layPart 21 = .ok (.aload_n 0, 1) := by decide +kernel
theorem dX10_layPart_22 : decode cX10_layPart 22 = .ok (.iload_n 1, 1) := by decide +kernel
theorem dX10_layPart_23 : decode cX10_layPart 23 = .ok (.iload_n 2, 1) := by decide +kernel
theorem dX10_layPart_24 : decode cX10_layPart 24 = .ok (.invokevirtual 50, 3) := by decide +kernel
theorem dX10_layPart_27 : decode cX10_layPart 27 = .ok (.iastore, 1) := by decide +kernel
theorem dX10_layPart_28 : decode cX10_layPart 28 = .ok (.iinc 2 1, 3) := by decide +kernel
theorem dX10_layPart_31 : decode cX10_layPart 31 = .ok (.goto (-29), 3) := by decide +kernel
theorem dX10_layPart_34 : decode cX10_layPart 34 = .ok (.return_, 1) := by decide +kernel
theorem dX10_addPart_0 : decode cX10_addPart 0 = .ok (.aload_n 0, 1) := by decide +kernel
theorem dX10_addPart_1 : decode cX10_addPart 1 = .ok (.iload_n 1, 1) := by decide +kernel
theorem dX10_addPart_2 : decode cX10_addPart 2 = .ok (.invokestatic 100, 3) := by decide +kernel
theorem dX10_addPart_5 : decode cX10_addPart 5 = .ok (.ifCond .ne 7, 3) := by decide +kernel
theorem dX10_addPart_8 : decode cX10_addPart 8 = .ok (.iconst 1, 1) := by decide +kernel
theorem dX10_addPart_9 : decode cX10_addPart 9 = .ok (.goto 19, 3) := by decide +kernel
theorem dX10_addPart_12 : decode cX10_addPart 12 = .ok (.aload_n 0, 1) := by decide +kernel
theorem dX10_addPart_13 : decode cX10_addPart 13 = .ok (.getfield 7, 3) := by decide +kernel
theorem dX10_addPart_16 : decode cX10_addPart 16 = .ok (.iconst 0, 1) := by decide +kernel
theorem dX10_addPart_17 : decode cX10_addPart 17 = .ok (.iaload, 1) := by decide +kernel
theorem dX10_addPart_18 : decode cX10_addPart 18 = .ok (.bipush 6, 2) := by decide +kernel
theorem dX10_addPart_20 : decode cX10_addPart 20 = .ok (.if_icmp .ne 7, 3) := by decide +kernel
theorem dX10_addPart_23 : decode cX10_addPart 23 = .ok (.iconst 2, 1) := by decide +kernel
theorem dX10_addPart_24 : decode cX10_addPart 24 = .ok (.goto 4, 3) := by decide +kernel
theorem dX10_addPart_27 : decode cX10_addPart 27 = .ok (.iconst 0, 1) := by decide +kernel
theorem dX10_addPart_28 : decode cX10_addPart 28 = .ok (.putfield 39, 3) := by decide +kernel
theorem dX10_addPart_31 : decode cX10_addPart 31 = .ok (.aload_n 0, 1) := by decide +kernel
theorem dX10_addPart_32 : decode cX10_addPart 32 = .ok (.getfield 39, 3) := by decide +kernel
theorem dX10_addPart_35 : decode cX10_addPart 35 = .ok (.ifCond .le 5, 3) := by decide +kernel
theorem dX10_addPart_38 : decode cX10_addPart 38 = .ok (.iconst 0, 1) := by decide +kernel
theorem dX10_addPart_39 : decode cX10_addPart 39 = .ok (.ireturn, 1) := by decide +kernel
theorem dX10_addPart_40 : decode cX10_addPart 40 = .ok (.aload_n 0, 1) := by decide +kernel
theorem dX10_addPart_41 : decode cX10_addPart 41 = .ok (.invokevirtual 104, 3) := by decide +kernel
theorem dX10_addPart_44 : decode cX10_addPart 44 = .ok (.aload_n 0, 1) := by decide +kernel
theorem dX10_addPart_45 : decode cX10_addPart 45 = .ok (.invokevirtual 107, 3) := by decide +kernel
theorem dX10_addPart_48 : decode cX10_addPart 48 = .ok (.istore_n 2, 1) := by decide +kernel
theorem dX10_addPart_49 : decode cX10_addPart 49 = .ok (.iconst 0, 1) := by decide +kernel
theorem dX10_addPart_50 : decode cX10_addPart 50 = .ok (.istore_n 3, 1) := by decide +kernel
theorem dX10_addPart_51 : decode cX10_addPart 51 = .ok (.iload_n 3, 1) := by decide +kernel
theorem dX10_addPart_52 : decode cX10_addPart 52 = .ok (.bipush 6, 2) := by decide +kernel
theorem dX10_addPart_54 : decode cX10_addPart 54 = .ok (.if_icmp .ge 38, 3) := by decide +kernel
theorem dX10_addPart_57 : decode cX10_addPart 57 = .ok (.aload_n 0, 1) := by decide +kernel
theorem dX10_addPart_58 : decode cX10_addPart 58 = .ok (.getfield 7, 3) := by decide +kernel
theorem dX10_addPart_61 : decode cX10_addPart 61 = .ok (.bipush 11, 2) := by decide +kernel
theorem dX10_addPart_63 : decode cX10_addPart 63 = .ok (.bipush 6, 2) := by decide +kernel
theorem dX10_addPart_65 : decode cX10_addPart 65 = .ok (.aload_n 0, 1) := by decide +kernel
theorem dX10_addPart_66 : decode cX10_addPart 66 = .ok (.getfield 7, 3) := by decide +kernel
theorem dX10_addPart_69 : decode cX10_addPart 69 = .ok (.iconst 0, 1) := by decide +kernel
theorem dX10_addPart_70 : decode cX10_addPart 70 = .ok (.iaload, 1) := by decide +kernel
theorem dX10_addPart_71 : decode cX10_addPart 71 = .ok (.imul, 1) := by decide +kernel
theorem dX10_addPart_72 : decode cX10_addPart 72 = .ok (.iadd, 1) := by decide +kernel
theorem dX10_addPart_73 : decode cX10_addPart 73 = .ok (.iload_n 3, 1) := by decide +kernel
theorem dX10_addPart_74 : decode cX10_addPart 74 = .ok (.iadd, 1) := by decide +kernel
theorem dX10_addPart_75 : decode cX10_addPart 75 = .ok (.iload_n 3, 1) := by decide +kernel
theorem dX10_addPart_76 : decode cX10_addPart 76 = .ok (.iload_n 1, 1) := by decide +kernel
theorem dX10_addPart_77 : decode cX10_addPart 77 = .ok (.if_icmp .gt 7, 3) := by decide +kernel
theorem dX10_addPart_80 : decode cX10_addPart 80 = .ok (.iconst 1, 1) := by decide +kernel
theorem dX10_addPart_81 : decode cX10_addPart 81 = .ok (.goto 4, 3) := by decide +kernel
theorem dX10_addPart_84 : decode cX10_addPart 84 = .ok (.iconst 0, 1) := by decide +kernel
theorem dX10_addPart_85 : decode cX10_addPart 85 = .ok (.iastore, 1) := by decide +kernel
theorem dX10_addPart_86 : decode cX10_addPart 86 = .ok (.iinc 3 1, 3) := by decide +kernel
theorem dX10_addPart_89 : decode cX10_addPart 89 = .ok (.goto (-38), 3) := by decide +kernel
theorem dX10_addPart_92 : decode cX10_addPart 92 = .ok (.aload_n 0, 1) := by decide +kernel
theorem dX10_addPart_93 : decode cX10_addPart 93 = .ok (.aload_n 0, 1) := by decide +kernel
theorem dX10_addPart_94 : decode cX10_addPart 94 = .ok (.getfield 7, 3) := by decide +kernel
theorem dX10_addPart_97 : decode cX10_addPart 97 = .ok (.iconst 0, 1) := by decide +kernel
theorem dX10_addPart_98 : decode cX10_addPart 98 = .ok (.iaload, 1) := by decide +kernel
theorem dX10_addPart_99 : decode cX10_addPart 99 = .ok (.invokevirtual 110, 3) := by decide +kernel
theorem dX10_addPart_102 : decode cX10_addPart 102 = .ok (.aload_n 0, 1) := by decide +kernel
theorem dX10_addPart_103 : decode cX10_addPart 103 = .ok (.getfield 7, 3) := by decide +kernel
theorem dX10_addPart_106 : decode cX10_addPart 106 = .ok (.iconst 0, 1) := by decide +kernel
theorem dX10_addPart_107 : decode cX10_addPart 107 = .ok (.dup2, 1) := by decide +kernel
theorem dX10_addPart_108 : decode cX10_addPart 108 = .ok (.iaload, 1) := by decide +kernel
theorem dX10_addPart_109 : decode cX10_addPart 109 = .ok (.iconst 1, 1) := by decide +kernel
theorem dX10_addPart_110 : decode cX10_addPart 110 = .ok (.iadd, 1) := by decide +kernel
theorem dX10_addPart_111 : decode cX10_addPart 111 = .ok (.iastore, 1) := by decide +kernel
theorem dX10_addPart_112 : decode cX10_addPart 112 = .ok (.aload_n 0, 1) := by decide +kernel
theorem dX10_addPart_113 : decode cX10_addPart 113 = .ok (.getfield 7, 3) := by decide +kernel
theorem dX10_addPart_116 : decode cX10_addPart 116 = .ok (.iconst 0, 1) := by decide +kernel
theorem dX10_addPart_117 : decode cX10_addPart 117 = .ok (.iaload, 1) := by decide +kernel
theorem dX10_addPart_118 : decode cX10_addPart 118 = .ok (.iconst 1, 1) := by decide +kernel
theorem dX10_addPart_119 : decode cX10_addPart 119 = .ok (.isub, 1) := by decide +kernel
theorem dX10_addPart_120 : decode cX10_addPart 120 = .ok (.ireturn, 1) := by decide +kernel
theorem dX10_removeFrom_0 : decode cX10_removeFrom 0 = .ok (.iload_n 1, 1) := by decide +kernel
theorem dX10_removeFrom_1 : decode cX10_removeFrom 1 = .ok (.bipush 6, 2) := by decide +kernel
theorem dX10_removeFrom_3 : decode cX10_removeFrom 3 = .ok (.iload_n 2, 1) := by decide +kernel
theorem dX10_removeFrom_4 : decode cX10_removeFrom 4 = .ok (.imul, 1) := by decide +kernel
theorem dX10_removeFrom_5 : decode cX10_removeFrom 5 = .ok (.iadd, 1) := by decide +kernel
theorem dX10_removeFrom_6 : decode cX10_removeFrom 6 = .ok (.istore_n 3, 1) := by decide +kernel
theorem dX10_removeFrom_7 : decode cX10_removeFrom 7 = .ok (.iload_n 3, 1) := by decide +kernel
theorem dX10_removeFrom_8 : decode cX10_removeFrom 8 = .ok (.iload_n 1, 1) := by decide +kernel
theorem dX10_removeFrom_9 : decode cX10_removeFrom 9 = .ok (.bipush 6, 2) := by decide +kernel
theorem dX10_removeFrom_11 : decode cX10_removeFrom 11 = .ok (.aload_n 0, 1) := by decide +kernel
theorem dX10_removeFrom_12 : decode cX10_removeFrom 12 = .ok (.getfield 7, 3) := by decide +kernel
theorem dX10_removeFrom_15 : decode cX10_removeFrom 15 = .ok (.iconst 0, 1) := by decide +kernel
theorem dX10_removeFrom_16 : decode cX10_removeFrom 16 = .ok (.iaload, 1) := by decide +kernel
theorem dX10_removeFrom_17 : decode cX10_removeFrom 17 = .ok (.imul, 1) := by decide +kernel
theorem dX10_removeFrom_18 : decode cX10_removeFrom 18 = .ok (.iadd, 1) := by decide +kernel
theorem dX10_removeFrom_19 : decode cX10_removeFrom 19 = .ok (.if_icmp .ge 24, 3) := by decide +kernel
theorem dX10_removeFrom_22 : decode cX10_removeFrom 22 = .ok (.aload_n 0, 1) := by decide +kernel
theorem dX10_removeFrom_23 : decode cX10_removeFrom 23 = .ok (.getfield 7, 3) := by decide +kernel
theorem dX10_removeFrom_26 : decode cX10_removeFrom 26 = .ok (.iload_n 3, 1) := by decide +kernel
theorem dX10_removeFrom_27 : decode cX10_removeFrom 27 = .ok (.aload_n 0, 1) := by decide +kernel
theorem dX10_removeFrom_28 : decode cX10_removeFrom 28 = .ok (.getfield 7, 3) := by decide +kernel
theorem dX10_removeFrom_31 : decode cX10_removeFrom 31 = .ok (.iload_n 3, 1) := by decide +kernel
theorem dX10_removeFrom_32 : decode cX10_removeFrom 32 = .ok (.bipush 6, 2) := by decide +kernel
theorem dX10_removeFrom_34 : decode cX10_removeFrom 34 = .ok (.iadd, 1) := by decide +kernel
theorem dX10_removeFrom_35 : decode cX10_removeFrom 35 = .ok (.iaload, 1) := by decide +kernel
theorem dX10_removeFrom_36 : decode cX10_removeFrom 36 = .ok (.iastore, 1) := by decide +kernel
theorem dX10_removeFrom_37 : decode cX10_removeFrom 37 = .ok (.iinc 3 1, 3) := by decide +kernel
theorem dX10_removeFrom_40 : decode cX10_removeFrom 40 = .ok (.goto (-33), 3) := by decide +kernel
theorem dX10_removeFrom_43 : decode cX10_removeFrom 43 = .ok (.return_, 1) := by decide +kernel
theorem dX10_removePart_0 : decode cX10_removePart 0 = .ok (.aload_n 0, 1) := by decide +kernel
theorem dX10_removePart_1 : decode cX10_removePart 1 = .ok (.aload_n 0, 1) := by decide +kernel
theorem dX10_removePart_2 : decode cX10_removePart 2 = .ok (.iload_n 1, 1) := by decide +kernel
theorem dX10_removePart_3 : decode cX10_removePart 3 = .ok (.invokevirtual 113, 3) := by decide +kernel
theorem dX10_removePart_6 : decode cX10_removePart 6 = .ok (.ifCond .eq 7, 3) := by decide +kernel
theorem dX10_removePart_9 : decode cX10_removePart 9 = .ok (.iconst 0, 1) := by decide +kernel
theorem dX10_removePart_10 : decode cX10_removePart 10 = .ok (.goto 4, 3) := by decide +kernel
theorem dX10_removePart_13 : decode cX10_removePart 13 = .ok (.iconst 1, 1) := by decide +kernel
theorem dX10_removePart_14 : decode cX10_removePart 14 = .ok (.putfield 39, 3) := by decide +kernel
theorem dX10_removePart_17 : decode cX10_removePart 17 = .ok (.aload_n 0, 1) := by decide +kernel
theorem dX10_removePart_18 : decode cX10_removePart 18 = .ok (.getfield 39, 3) := by decide +kernel
theorem dX10_removePart_21 : decode cX10_removePart 21 = .ok (.ifCond .le 5, 3) := by decide +kernel
theorem dX10_removePart_24 : decode cX10_removePart 24 = .ok (.iconst 0, 1) := by decide +kernel
theorem dX10_removePart_25 : decode cX10_removePart 25 = .ok (.ireturn, 1) := by decide +kernel
theorem dX10_removePart_26 : decode cX10_removePart 26 = .ok (.aload_n 0, 1) := by decide +kernel
theorem dX10_removePart_27 : decode cX10_removePart 27 = .ok (.invokevirtual 104, 3) := by decide +kernel
theorem dX10_removePart_30 : decode cX10_removePart 30 = .ok (.aload_n 0, 1) := by decide +kernel
theorem dX10_removePart_31 : decode cX10_removePart 31 = .ok (.invokevirtual 107, 3) := by decide +kernel
theorem dX10_removePart_34 : decode cX10_removePart 34 = .ok (.istore_n 2, 1) := by decide +kernel
theorem dX10_removePart_35 : decode cX10_removePart 35 = .ok (.aload_n 0, 1) := by decide +kernel
theorem dX10_removePart_36 : decode cX10_removePart 36 = .ok (.getfield 7, 3) := by decide +kernel
theorem dX10_removePart_39 : decode cX10_removePart 39 = .ok (.iconst 0, 1) := by decide +kernel
theorem dX10_removePart_40 : decode cX10_removePart 40 = .ok (.dup2, 1) := by decide +kernel
theorem dX10_removePart_41 : decode cX10_removePart 41 = .ok (.iaload, 1) := by decide +kernel
theorem dX10_removePart_42 : decode cX10_removePart 42 = .ok (.iconst 1, 1) := by decide +kernel
theorem dX10_removePart_43 : decode cX10_removePart 43 = .ok (.isub, 1) := by decide +kernel
theorem dX10_removePart_44 : decode cX10_removePart 44 = .ok (.iastore, 1) := by decide +kernel
theorem dX10_removePart_45 : decode cX10_removePart 45 = .ok (.aload_n 0, 1) := by decide +kernel
theorem dX10_removePart_46 : decode cX10_removePart 46 = .ok (.bipush 11, 2) := by decide +kernel
theorem dX10_removePart_48 : decode cX10_removePart 48 = .ok (.iload_n 1, 1) := by decide +kernel
theorem dX10_removePart_49 : decode cX10_removePart 49 = .ok (.invokevirtual 116, 3) := by decide +kernel
theorem dX10_removePart_52 : decode cX10_removePart 52 = .ok (.aload_n 0, 1) := by decide +kernel
theorem dX10_removePart_53 : decode cX10_removePart 53 = .ok (.bipush 47, 2) := by decide +kernel
theorem dX10_removePart_55 : decode cX10_removePart 55 = .ok (.iload_n 1, 1) := by decide +kernel
theorem dX10_removePart_56 : decode cX10_removePart 56 = .ok (.invokevirtual 116, 3) := by decide +kernel
theorem dX10_removePart_59 : decode cX10_removePart 59 = .ok (.aload_n 0, 1) := by decide +kernel
theorem dX10_removePart_60 : decode cX10_removePart 60 = .ok (.getfield 7, 3) := by decide +kernel
theorem dX10_removePart_63 : decode cX10_removePart 63 = .ok (.iconst 0, 1) := by decide +kernel
theorem dX10_removePart_64 : decode cX10_removePart 64 = .ok (.iaload, 1) := by decide +kernel
theorem dX10_removePart_65 : decode cX10_removePart 65 = .ok (.ireturn, 1) := by decide +kernel
theorem dX10_weigh_0 : decode cX10_weigh 0 = .ok (.aload_n 0, 1) := by decide +kernel
theorem dX10_weigh_1 : decode cX10_weigh 1 = .ok (.aload_n 0, 1) := by decide +kernel
theorem dX10_weigh_2 : decode cX10_weigh 2 = .ok (.iload_n 1, 1) := by decide +kernel
theorem dX10_weigh_3 : decode cX10_weigh 3 = .ok (.invokevirtual 113, 3) := by decide +kernel
theorem dX10_weigh_6 : decode cX10_weigh 6 = .ok (.ifCond .eq 10, 3) := by decide +kernel
theorem dX10_weigh_9 : decode cX10_weigh 9 = .ok (.iload_n 2, 1) := by decide +kernel
theorem dX10_weigh_10 : decode cX10_weigh 10 = .ok (.invokestatic 100, 3) := by decide +kernel
theorem dX10_weigh_13 : decode cX10_weigh 13 = .ok (.ifCond .ne 7, 3) := by decide +kernel
theorem dX10_weigh_16 : decode cX10_weigh 16 = .ok (.iconst 1, 1) := by decide +kernel
theorem dX10_weigh_17 : decode cX10_weigh 17 = .ok (.goto 18, 3) := by decide +kernel
theorem dX10_weigh_20 : decode cX10_weigh 20 = .ok (.iload_n 3, 1) := by decide +kernel
theorem dX10_weigh_21 : decode cX10_weigh 21 = .ok (.iconst 0, 1) := by decide +kernel
theorem dX10_weigh_22 : decode cX10_weigh 22 = .ok (.bipush 9, 2) := by decide +kernel
theorem dX10_weigh_24 : decode cX10_weigh 24 = .ok (.invokestatic 46, 3) := by decide +kernel
theorem dX10_weigh_27 : decode cX10_weigh 27 = .ok (.ifCond .ne 7, 3) := by decide +kernel
theorem dX10_weigh_30 : decode cX10_weigh 30 = .ok (.iconst 2, 1) := by decide +kernel
theorem dX10_weigh_31 : decode cX10_weigh 31 = .ok (.goto 4, 3) := by decide +kernel
theorem dX10_weigh_34 : decode cX10_weigh 34 = .ok (.iconst 0, 1) := by decide +kernel
theorem dX10_weigh_35 : decode cX10_weigh 35 = .ok (.putfield 39, 3) := by decide +kernel
theorem dX10_weigh_38 : decode cX10_weigh 38 = .ok (.aload_n 0, 1) := by decide +kernel
theorem dX10_weigh_39 : decode cX10_weigh 39 = .ok (.getfield 39, 3) := by decide +kernel
theorem dX10_weigh_42 : decode cX10_weigh 42 = .ok (.ifCond .ne 29, 3) := by decide +kernel
theorem dX10_weigh_45 : decode cX10_weigh 45 = .ok (.aload_n 0, 1) := by decide +kernel
theorem dX10_weigh_46 : decode cX10_weigh 46 = .ok (.aload_n 0, 1) := by decide +kernel
theorem dX10_weigh_47 : decode cX10_weigh 47 = .ok (.iload_n 1, 1) := by decide +kernel
theorem dX10_weigh_48 : decode cX10_weigh 48 = .ok (.invokevirtual 68, 3) := by decide +kernel
theorem dX10_weigh_51 : decode cX10_weigh 51 = .ok (.aload_n 0, 1) := by decide +kernel
theorem dX10_weigh_52 : decode cX10_weigh 52 = .ok (.iload_n 1, 1) := by decide +kernel
theorem dX10_weigh_53 : decode cX10_weigh 53 = .ok (.iload_n 2, 1) := by decide +kernel
theorem dX10_weigh_54 : decode cX10_weigh 54 = .ok (.invokevirtual 50, 3) := by decide +kernel
theorem dX10_weigh_57 : decode cX10_weigh 57 = .ok (.isub, 1) := by decide +kernel
theorem dX10_weigh_58 : decode cX10_weigh 58 = .ok (.iload_n 3, 1) := by decide +kernel
theorem dX10_weigh_59 : decode cX10_weigh 59 = .ok (.iadd, 1) := by decide +kernel
theorem dX10_weigh_60 : decode cX10_weigh 60 = .ok (.ifCond .ne 7, 3) := by decide +kernel
theorem dX10_weigh_63 : decode cX10_weigh 63 = .ok (.iconst 3, 1) := by decide +kernel
theorem dX10_weigh_64 : decode cX10_weigh 64 = .ok (.goto 4, 3) := by decide +kernel
theorem dX10_weigh_67 : decode cX10_weigh 67 = .ok (.iconst 0, 1) := by decide +kernel
theorem dX10_weigh_68 : decode cX10_weigh 68 = .ok (.putfield 39, 3) := by decide +kernel
theorem dX10_weigh_71 : decode cX10_weigh 71 = .ok (.aload_n 0, 1) := by decide +kernel
theorem dX10_weigh_72 : decode cX10_weigh 72 = .ok (.getfield 39, 3) := by decide +kernel
theorem dX10_weigh_75 : decode cX10_weigh 75 = .ok (.ifCond .le 5, 3) := by decide +kernel
theorem dX10_weigh_78 : decode cX10_weigh 78 = .ok (.iconst 0, 1) := by decide +kernel
theorem dX10_weigh_79 : decode cX10_weigh 79 = .ok (.ireturn, 1) := by decide +kernel
theorem dX10_weigh_80 : decode cX10_weigh 80 = .ok (.aload_n 0, 1) := by decide +kernel
theorem dX10_weigh_81 : decode cX10_weigh 81 = .ok (.invokevirtual 104, 3) := by decide +kernel
theorem dX10_weigh_84 : decode cX10_weigh 84 = .ok (.aload_n 0, 1) := by decide +kernel
theorem dX10_weigh_85 : decode cX10_weigh 85 = .ok (.invokevirtual 107, 3) := by decide +kernel
theorem dX10_weigh_88 : decode cX10_weigh 88 = .ok (.istore 4, 2) := by decide +kernel
theorem dX10_weigh_90 : decode cX10_weigh 90 = .ok (.aload_n 0, 1) := by decide +kernel
theorem dX10_weigh_91 : decode cX10_weigh 91 = .ok (.iload_n 1, 1) := by decide +kernel
theorem dX10_weigh_92 : decode cX10_weigh 92 = .ok (.iload_n 2, 1) := by decide +kernel
theorem dX10_weigh_93 : decode cX10_weigh 93 = .ok (.invokevirtual 50, 3) := by decide +kernel
theorem dX10_weigh_96 : decode cX10_weigh 96 = .ok (.istore 5, 2) := by decide +kernel
theorem dX10_weigh_98 : decode cX10_weigh 98 = .ok (.aload_n 0, 1) := by decide +kernel
theorem dX10_weigh_99 : decode cX10_weigh 99 = .ok (.getfield 7, 3) := by decide +kernel
theorem dX10_weigh_102 : decode cX10_weigh 102 = .ok (.bipush 11, 2) := by decide +kernel
theorem dX10_weigh_104 : decode cX10_weigh 104 = .ok (.bipush 6, 2) := by decide +kernel
theorem dX10_weigh_106 : decode cX10_weigh 106 = .ok (.iload_n 1, 1) := by decide +kernel
theorem dX10_weigh_107 : decode cX10_weigh 107 = .ok (.imul, 1) := by decide +kernel
theorem dX10_weigh_108 : decode cX10_weigh 108 = .ok (.iadd, 1) := by decide +kernel
theorem dX10_weigh_109 : decode cX10_weigh 109 = .ok (.iload_n 2, 1) := by decide +kernel
theorem dX10_weigh_110 : decode cX10_weigh 110 = .ok (.iadd, 1) := by decide +kernel
theorem dX10_weigh_111 : decode cX10_weigh 111 = .ok (.iload_n 3, 1) := by decide +kernel
theorem dX10_weigh_112 : decode cX10_weigh 112 = .ok (.iastore, 1) := by decide +kernel
theorem dX10_weigh_113 : decode cX10_weigh 113 = .ok (.aload_n 0, 1) := by decide +kernel
theorem dX10_weigh_114 : decode cX10_weigh 114 = .ok (.getfield 7, 3) := by decide +kernel
theorem dX10_weigh_117 : decode cX10_weigh 117 = .ok (.bipush 47, 2) := by decide +kernel
theorem dX10_weigh_119 : decode cX10_weigh 119 = .ok (.bipush 6, 2) := by decide +kernel
theorem dX10_weigh_121 : decode cX10_weigh 121 = .ok (.iload_n 1, 1) := by decide +kernel
theorem dX10_weigh_122 : decode cX10_weigh 122 = .ok (.imul, 1) := by decide +kernel
theorem dX10_weigh_123 : decode cX10_weigh 123 = .ok (.iadd, 1) := by decide +kernel
theorem dX10_weigh_124 : decode cX10_weigh 124 = .ok (.iload_n 2, 1) := by decide +kernel
theorem dX10_weigh_125 : decode cX10_weigh 125 = .ok (.iadd, 1) := by decide +kernel
theorem dX10_weigh_126 : decode cX10_weigh 126 = .ok (.iload 5, 2) := by decide +kernel
theorem dX10_weigh_128 : decode cX10_weigh 128 = .ok (.ifCond .eq 7, 3) := by decide +kernel
theorem dX10_weigh_131 : decode cX10_weigh 131 = .ok (.iload_n 3, 1) := by decide +kernel
theorem dX10_weigh_132 : decode cX10_weigh 132 = .ok (.ifCond .ne 7, 3) := by decide +kernel
theorem dX10_weigh_135 : decode cX10_weigh 135 = .ok (.iload_n 3, 1) := by decide +kernel
theorem dX10_weigh_136 : decode cX10_weigh 136 = .ok (.goto 9, 3) := by decide +kernel
theorem dX10_weigh_139 : decode cX10_weigh 139 = .ok (.aload_n 0, 1) := by decide +kernel
theorem dX10_weigh_140 : decode cX10_weigh 140 = .ok (.iload_n 1, 1) := by decide +kernel
theorem dX10_weigh_141 : decode cX10_weigh 141 = .ok (.iload_n 2, 1) := by decide +kernel
theorem dX10_weigh_142 : decode cX10_weigh 142 = .ok (.invokevirtual 54, 3) := by decide +kernel
theorem dX10_weigh_145 : decode cX10_weigh 145 = .ok (.iastore, 1) := by decide +kernel
theorem dX10_weigh_146 : decode cX10_weigh 146 = .ok (.iload 5, 2) := by decide +kernel
theorem dX10_weigh_148 : decode cX10_weigh 148 = .ok (.ireturn, 1) := by decide +kernel
theorem dX10_tilt_0 : decode cX10_tilt 0 = .ok (.aload_n 0, 1) := by decide +kernel
theorem dX10_tilt_1 : decode cX10_tilt 1 = .ok (.aload_n 0, 1) := by decide +kernel
theorem dX10_tilt_2 : decode cX10_tilt 2 = .ok (.iload_n 1, 1) := by decide +kernel
theorem dX10_tilt_3 : decode cX10_tilt 3 = .ok (.invokevirtual 113, 3) := by decide +kernel
theorem dX10_tilt_6 : decode cX10_tilt 6 = .ok (.ifCond .eq 10, 3) := by decide +kernel
theorem dX10_tilt_9 : decode cX10_tilt 9 = .ok (.iload_n 2, 1) := by decide +kernel
theorem dX10_tilt_10 : decode cX10_tilt 10 = .ok (.invokestatic 100, 3) := by decide +kernel
theorem dX10_tilt_13 : decode cX10_tilt 13 = .ok (.ifCond .ne 7, 3) := by decide +kernel
theorem dX10_tilt_16 : decode cX10_tilt 16 = .ok (.iconst 1, 1) := by decide +kernel
theorem dX10_tilt_17 : decode cX10_tilt 17 = .ok (.goto 31, 3) := by decide +kernel
theorem dX10_tilt_20 : decode cX10_tilt 20 = .ok (.iload_n 3, 1) := by decide +kernel
theorem dX10_tilt_21 : decode cX10_tilt 21 = .ok (.iconst 1, 1) := by decide +kernel
theorem dX10_tilt_22 : decode cX10_tilt 22 = .ok (.bipush 99, 2) := by decide +kernel
theorem dX10_tilt_24 : decode cX10_tilt 24 = .ok (.invokestatic 46, 3) := by decide +kernel
theorem dX10_tilt_27 : decode cX10_tilt 27 = .ok (.ifCond .ne 7, 3) := by decide +kernel
theorem dX10_tilt_30 : decode cX10_tilt 30 = .ok (.iconst 2, 1) := by decide +kernel
theorem dX10_tilt_31 : decode cX10_tilt 31 = .ok (.goto 17, 3) := by decide +kernel
theorem dX10_tilt_34 : decode cX10_tilt 34 = .ok (.aload_n 0, 1) := by decide +kernel
theorem dX10_tilt_35 : decode cX10_tilt 35 = .ok (.iload_n 1, 1) := by decide +kernel
theorem dX10_tilt_36 : decode cX10_tilt 36 = .ok (.iload_n 2, 1) := by decide +kernel
theorem dX10_tilt_37 : decode cX10_tilt 37 = .ok (.invokevirtual 50, 3) := by decide +kernel
theorem dX10_tilt_40 : decode cX10_tilt 40 = .ok (.ifCond .ne 7, 3) := by decide +kernel
theorem dX10_tilt_43 : decode cX10_tilt 43 = .ok (.iconst 3, 1) := by decide +kernel
theorem dX10_tilt_44 : decode cX10_tilt 44 = .ok (.goto 4, 3) := by decide +kernel
theorem dX10_tilt_47 : decode cX10_tilt 47 = .ok (.iconst 0, 1) := by decide +kernel
theorem dX10_tilt_48 : decode cX10_tilt 48 = .ok (.putfield 39, 3) := by decide +kernel
theorem dX10_tilt_51 : decode cX10_tilt 51 = .ok (.aload_n 0, 1) := by decide +kernel
theorem dX10_tilt_52 : decode cX10_tilt 52 = .ok (.getfield 39, 3) := by decide +kernel
theorem dX10_tilt_55 : decode cX10_tilt 55 = .ok (.ifCond .le 5, 3) := by decide +kernel
theorem dX10_tilt_58 : decode cX10_tilt 58 = .ok (.iconst 0, 1) := by decide +kernel
theorem dX10_tilt_59 : decode cX10_tilt 59 = .ok (.ireturn, 1) := by decide +kernel
theorem dX10_tilt_60 : decode cX10_tilt 60 = .ok (.aload_n 0, 1) := by decide +kernel
theorem dX10_tilt_61 : decode cX10_tilt 61 = .ok (.invokevirtual 104, 3) := by decide +kernel
theorem dX10_tilt_64 : decode cX10_tilt 64 = .ok (.aload_n 0, 1) := by decide +kernel
theorem dX10_tilt_65 : decode cX10_tilt 65 = .ok (.invokevirtual 107, 3) := by decide +kernel
theorem dX10_tilt_68 : decode cX10_tilt 68 = .ok (.istore 4, 2) := by decide +kernel
theorem dX10_tilt_70 : decode cX10_tilt 70 = .ok (.aload_n 0, 1) := by decide +kernel
theorem dX10_tilt_71 : decode cX10_tilt 71 = .ok (.iload_n 1, 1) := by decide +kernel
theorem dX10_tilt_72 : decode cX10_tilt 72 = .ok (.iload_n 2, 1) := by decide +kernel
theorem dX10_tilt_73 : decode cX10_tilt 73 = .ok (.invokevirtual 54, 3) := by decide +kernel
theorem dX10_tilt_76 : decode cX10_tilt 76 = .ok (.istore 5, 2) := by decide +kernel
theorem dX10_tilt_78 : decode cX10_tilt 78 = .ok (.aload_n 0, 1) := by decide +kernel
theorem dX10_tilt_79 : decode cX10_tilt 79 = .ok (.getfield 7, 3) := by decide +kernel
theorem dX10_tilt_82 : decode cX10_tilt 82 = .ok (.bipush 47, 2) := by decide +kernel
theorem dX10_tilt_84 : decode cX10_tilt 84 = .ok (.bipush 6, 2) := by decide +kernel
theorem dX10_tilt_86 : decode cX10_tilt 86 = .ok (.iload_n 1, 1) := by decide +kernel
theorem dX10_tilt_87 : decode cX10_tilt 87 = .ok (.imul, 1) := by decide +kernel
theorem dX10_tilt_88 : decode cX10_tilt 88 = .ok (.iadd, 1) := by decide +kernel
theorem dX10_tilt_89 : decode cX10_tilt 89 = .ok (.iload_n 2, 1) := by decide +kernel
theorem dX10_tilt_90 : decode cX10_tilt 90 = .ok (.iadd, 1) := by decide +kernel
theorem dX10_tilt_91 : decode cX10_tilt 91 = .ok (.iload_n 3, 1) := by decide +kernel
theorem dX10_tilt_92 : decode cX10_tilt 92 = .ok (.iastore, 1) := by decide +kernel
theorem dX10_tilt_93 : decode cX10_tilt 93 = .ok (.iload 5, 2) := by decide +kernel
theorem dX10_tilt_95 : decode cX10_tilt 95 = .ok (.ireturn, 1) := by decide +kernel
theorem dX10_tiltAll_0 : decode cX10_tiltAll 0 = .ok (.aload_n 0, 1) := by decide +kernel
theorem dX10_tiltAll_1 : decode cX10_tiltAll 1 = .ok (.iload_n 1, 1) := by decide +kernel
theorem dX10_tiltAll_2 : decode cX10_tiltAll 2 = .ok (.iconst 0, 1) := by decide +kernel
theorem dX10_tiltAll_3 : decode cX10_tiltAll 3 = .ok (.bipush 9, 2) := by decide +kernel
theorem dX10_tiltAll_5 : decode cX10_tiltAll 5 = .ok (.invokestatic 46, 3) := by decide +kernel
theorem dX10_tiltAll_8 : decode cX10_tiltAll 8 = .ok (.ifCond .eq 7, 3) := by decide +kernel
theorem dX10_tiltAll_11 : decode cX10_tiltAll 11 = .ok (.iconst 0, 1) := by decide +kernel
theorem dX10_tiltAll_12 : decode cX10_tiltAll 12 = .ok (.goto 4, 3) := by decide +kernel
theorem dX10_tiltAll_15 : decode cX10_tiltAll 15 = .ok (.iconst 1, 1) := by decide +kernel
theorem dX10_tiltAll_16 : decode cX10_tiltAll 16 = .ok (.putfield 39, 3) := by decide +kernel
theorem dX10_tiltAll_19 : decode cX10_tiltAll 19 = .ok (.aload_n 0, 1) := by decide +kernel
theorem dX10_tiltAll_20 : decode cX10_tiltAll 20 = .ok (.getfield 39, 3) := by decide +kernel
theorem dX10_tiltAll_23 : decode cX10_tiltAll 23 = .ok (.ifCond .le 5, 3) := by decide +kernel
theorem dX10_tiltAll_26 : decode cX10_tiltAll 26 = .ok (.iconst 0, 1) := by decide +kernel
theorem dX10_tiltAll_27 : decode cX10_tiltAll 27 = .ok (.ireturn, 1) := by decide +kernel
theorem dX10_tiltAll_28 : decode cX10_tiltAll 28 = .ok (.aload_n 0, 1) := by decide +kernel
theorem dX10_tiltAll_29 : decode cX10_tiltAll 29 = .ok (.invokevirtual 104, 3) := by decide +kernel
theorem dX10_tiltAll_32 : decode cX10_tiltAll 32 = .ok (.aload_n 0, 1) := by decide +kernel
theorem dX10_tiltAll_33 : decode cX10_tiltAll 33 = .ok (.invokevirtual 107, 3) := by decide +kernel
theorem dX10_tiltAll_36 : decode cX10_tiltAll 36 = .ok (.istore_n 2, 1) := by decide +kernel
theorem dX10_tiltAll_37 : decode cX10_tiltAll 37 = .ok (.iconst 0, 1) := by decide +kernel
theorem dX10_tiltAll_38 : decode cX10_tiltAll 38 = .ok (.istore_n 3, 1) := by decide +kernel
theorem dX10_tiltAll_39 : decode cX10_tiltAll 39 = .ok (.iconst 0, 1) := by decide +kernel
theorem dX10_tiltAll_40 : decode cX10_tiltAll 40 = .ok (.istore 4, 2) := by decide +kernel
theorem dX10_tiltAll_42 : decode cX10_tiltAll 42 = .ok (.iload 4, 2) := by decide +kernel
theorem dX10_tiltAll_44 : decode cX10_tiltAll 44 = .ok (.aload_n 0, 1) := by decide +kernel
theorem dX10_tiltAll_45 : decode cX10_tiltAll 45 = .ok (.getfield 7, 3) := by decide +kernel
theorem dX10_tiltAll_48 : decode cX10_tiltAll 48 = .ok (.iconst 0, 1) := by decide +kernel
theorem dX10_tiltAll_49 : decode cX10_tiltAll 49 = .ok (.iaload, 1) := by decide +kernel
theorem dX10_tiltAll_50 : decode cX10_tiltAll 50 = .ok (.if_icmp .ge 81, 3) := by decide +kernel
theorem dX10_tiltAll_53 : decode cX10_tiltAll 53 = .ok (.iconst 0, 1) := by decide +kernel
theorem dX10_tiltAll_54 : decode cX10_tiltAll 54 = .ok (.istore 5, 2) := by decide +kernel
theorem dX10_tiltAll_56 : decode cX10_tiltAll 56 = .ok (.iload 5, 2) := by decide +kernel
theorem dX10_tiltAll_58 : decode cX10_tiltAll 58 = .ok (.bipush 6, 2) := by decide +kernel
theorem dX10_tiltAll_60 : decode cX10_tiltAll 60 = .ok (.if_icmp .ge 56, 3) := by decide +kernel
theorem dX10_tiltAll_63 : decode cX10_tiltAll 63 = .ok (.aload_n 0, 1) := by decide +kernel
theorem dX10_tiltAll_64 : decode cX10_tiltAll 64 = .ok (.iload 4, 2) := by decide +kernel
theorem dX10_tiltAll_66 : decode cX10_tiltAll 66 = .ok (.iload 5, 2) := by decide +kernel
theorem dX10_tiltAll_68 : decode cX10_tiltAll 68 = .ok (.invokevirtual 50, 3) := by decide +kernel
theorem dX10_tiltAll_71 : decode cX10_tiltAll 71 = .ok (.iconst 1, 1) := by decide +kernel
theorem dX10_tiltAll_72 : decode cX10_tiltAll 72 = .ok (.iload 5, 2) := by decide +kernel
theorem dX10_tiltAll_74 : decode cX10_tiltAll 74 = .ok (.iload_n 1, 1) := by decide +kernel
theorem dX10_tiltAll_75 : decode cX10_tiltAll 75 = .ok (.imul, 1) := by decide +kernel
theorem dX10_tiltAll_76 : decode cX10_tiltAll 76 = .ok (.iadd, 1) := by decide +kernel
theorem dX10_tiltAll_77 : decode cX10_tiltAll 77 = .ok (.imul, 1) := by decide +kernel
theorem dX10_tiltAll_78 : decode cX10_tiltAll 78 = .ok (.istore 6, 2) := by decide +kernel
theorem dX10_tiltAll_80 : decode cX10_tiltAll 80 = .ok (.aload_n 0, 1) := by decide +kernel
theorem dX10_tiltAll_81 : decode cX10_tiltAll 81 = .ok (.getfield 7, 3) := by decide +kernel
theorem dX10_tiltAll_84 : decode cX10_tiltAll 84 = .ok (.bipush 47, 2) := by decide +kernel
theorem dX10_tiltAll_86 : decode cX10_tiltAll 86 = .ok (.bipush 6, 2) := by decide +kernel
theorem dX10_tiltAll_88 : decode cX10_tiltAll 88 = .ok (.iload 4, 2) := by decide +kernel
theorem dX10_tiltAll_90 : decode cX10_tiltAll 90 = .ok (.imul, 1) := by decide +kernel
theorem dX10_tiltAll_91 : decode cX10_tiltAll 91 = .ok (.iadd, 1) := by decide +kernel
theorem dX10_tiltAll_92 : decode cX10_tiltAll 92 = .ok (.iload 5, 2) := by decide +kernel
theorem dX10_tiltAll_94 : decode cX10_tiltAll 94 = .ok (.iadd, 1) := by decide +kernel
theorem dX10_tiltAll_95 : decode cX10_tiltAll 95 = .ok (.iload 6, 2) := by decide +kernel
theorem dX10_tiltAll_97 : decode cX10_tiltAll 97 = .ok (.bipush 99, 2) := by decide +kernel
theorem dX10_tiltAll_99 : decode cX10_tiltAll 99 = .ok (.if_icmp .le 8, 3) := by decide +kernel
theorem dX10_tiltAll_102 : decode cX10_tiltAll 102 = .ok (.bipush 99, 2) := by decide +kernel
theorem dX10_tiltAll_104 : decode cX10_tiltAll 104 = .ok (.goto 5, 3) := by decide +kernel
theorem dX10_tiltAll_107 : decode cX10_tiltAll 107 = .ok (.iload 6, 2) := by decide +kernel
theorem dX10_tiltAll_109 : decode cX10_tiltAll 109 = .ok (.iastore, 1) := by decide +kernel
theorem dX10_tiltAll_110 : decode cX10_tiltAll 110 = .ok (.iinc 5 1, 3) := by decide +kernel
theorem dX10_tiltAll_113 : decode cX10_tiltAll 113 = .ok (.goto (-57), 3) := by decide +kernel
theorem dX10_tiltAll_116 : decode cX10_tiltAll 116 = .ok (.iload_n 3, 1) := by decide +kernel
theorem dX10_tiltAll_117 : decode cX10_tiltAll 117 = .ok (.aload_n 0, 1) := by decide +kernel
theorem dX10_tiltAll_118 : decode cX10_tiltAll 118 = .ok (.iload 4, 2) := by decide +kernel
theorem dX10_tiltAll_120 : decode cX10_tiltAll 120 = .ok (.invokevirtual 64, 3) := by decide +kernel
theorem dX10_tiltAll_123 : decode cX10_tiltAll 123 = .ok (.iadd, 1) := by decide +kernel
theorem dX10_tiltAll_124 : decode cX10_tiltAll 124 = .ok (.istore_n 3, 1) := by decide +kernel
theorem dX10_tiltAll_125 : decode cX10_tiltAll 125 = .ok (.iinc 4 1, 3) := by decide +kernel
theorem dX10_tiltAll_128 : decode cX10_tiltAll 128 = .ok (.goto (-86), 3) := by decide +kernel
theorem dX10_tiltAll_131 : decode cX10_tiltAll 131 = .ok (.iload_n 3, 1) := by decide +kernel
theorem dX10_tiltAll_132 : decode cX10_tiltAll 132 = .ok (.ireturn, 1) := by decide +kernel
theorem dX10_isLimit_0 : decode cX10_isLimit 0 = .ok (.iload_n 0, 1) := by decide +kernel
theorem dX10_isLimit_1 : decode cX10_isLimit 1 = .ok (.iconst 0, 1) := by decide +kernel
theorem dX10_isLimit_2 : decode cX10_isLimit 2 = .ok (.bipush 99, 2) := by decide +kernel
theorem dX10_isLimit_4 : decode cX10_isLimit 4 = .ok (.invokestatic 46, 3) := by decide +kernel
theorem dX10_isLimit_7 : decode cX10_isLimit 7 = .ok (.ireturn, 1) := by decide +kernel
theorem dX10_limit_0 : decode cX10_limit 0 = .ok (.aload_n 0, 1) := by decide +kernel
theorem dX10_limit_1 : decode cX10_limit 1 = .ok (.iload_n 1, 1) := by decide +kernel
theorem dX10_limit_2 : decode cX10_limit 2 = .ok (.invokestatic 120, 3) := by decide +kernel
theorem dX10_limit_5 : decode cX10_limit 5 = .ok (.ifCond .eq 7, 3) := by decide +kernel
theorem dX10_limit_8 : decode cX10_limit 8 = .ok (.iconst 0, 1) := by decide +kernel
theorem dX10_limit_9 : decode cX10_limit 9 = .ok (.goto 4, 3) := by decide +kernel
theorem dX10_limit_12 : decode cX10_limit 12 = .ok (.iconst 1, 1) := by decide +kernel
theorem dX10_limit_13 : decode cX10_limit 13 = .ok (.putfield 39, 3) := by decide +kernel
theorem dX10_limit_16 : decode cX10_limit 16 = .ok (.aload_n 0, 1) := by decide +kernel
theorem dX10_limit_17 : decode cX10_limit 17 = .ok (.getfield 39, 3) := by decide +kernel
theorem dX10_limit_20 : decode cX10_limit 20 = .ok (.ifCond .le 5, 3) := by decide +kernel
theorem dX10_limit_23 : decode cX10_limit 23 = .ok (.iconst 0, 1) := by decide +kernel
theorem dX10_limit_24 : decode cX10_limit 24 = .ok (.ireturn, 1) := by decide +kernel
theorem dX10_limit_25 : decode cX10_limit 25 = .ok (.aload_n 0, 1) := by decide +kernel
theorem dX10_limit_26 : decode cX10_limit 26 = .ok (.invokevirtual 104, 3) := by decide +kernel
theorem dX10_limit_29 : decode cX10_limit 29 = .ok (.aload_n 0, 1) := by decide +kernel
theorem dX10_limit_30 : decode cX10_limit 30 = .ok (.invokevirtual 107, 3) := by decide +kernel
theorem dX10_limit_33 : decode cX10_limit 33 = .ok (.istore_n 2, 1) := by decide +kernel
theorem dX10_limit_34 : decode cX10_limit 34 = .ok (.aload_n 0, 1) := by decide +kernel
theorem dX10_limit_35 : decode cX10_limit 35 = .ok (.getfield 7, 3) := by decide +kernel
theorem dX10_limit_38 : decode cX10_limit 38 = .ok (.iconst 1, 1) := by decide +kernel
theorem dX10_limit_39 : decode cX10_limit 39 = .ok (.iaload, 1) := by decide +kernel
theorem dX10_limit_40 : decode cX10_limit 40 = .ok (.istore_n 3, 1) := by decide +kernel
theorem dX10_limit_41 : decode cX10_limit 41 = .ok (.aload_n 0, 1) := by decide +kernel
theorem dX10_limit_42 : decode cX10_limit 42 = .ok (.getfield 7, 3) := by decide +kernel
theorem dX10_limit_45 : decode cX10_limit 45 = .ok (.iconst 1, 1) := by decide +kernel
theorem dX10_limit_46 : decode cX10_limit 46 = .ok (.iload_n 1, 1) := by decide +kernel
theorem dX10_limit_47 : decode cX10_limit 47 = .ok (.iastore, 1) := by decide +kernel
theorem dX10_limit_48 : decode cX10_limit 48 = .ok (.iload_n 3, 1) := by decide +kernel
theorem dX10_limit_49 : decode cX10_limit 49 = .ok (.ireturn, 1) := by decide +kernel
theorem dX10_seed_0 : decode cX10_seed 0 = .ok (.aload_n 0, 1) := by decide +kernel
theorem dX10_seed_1 : decode cX10_seed 1 = .ok (.iload_n 1, 1) := by decide +kernel
theorem dX10_seed_2 : decode cX10_seed 2 = .ok (.ifCond .ge 7, 3) := by decide +kernel
theorem dX10_seed_5 : decode cX10_seed 5 = .ok (.iconst 1, 1) := by decide +kernel
theorem dX10_seed_6 : decode cX10_seed 6 = .ok (.goto 4, 3) := by decide +kernel
theorem dX10_seed_9 : decode cX10_seed 9 = .ok (.iconst 0, 1) := by decide +kernel
theorem dX10_seed_10 : decode cX10_seed 10 = .ok (.putfield 39, 3) := by decide +kernel
theorem dX10_seed_13 : decode cX10_seed 13 = .ok (.aload_n 0, 1) := by decide +kernel
theorem dX10_seed_14 : decode cX10_seed 14 = .ok (.getfield 39, 3) := by decide +kernel
theorem dX10_seed_17 : decode cX10_seed 17 = .ok (.ifCond .le 5, 3) := by decide +kernel
theorem dX10_seed_20 : decode cX10_seed 20 = .ok (.iconst 0, 1) := by decide +kernel
theorem dX10_seed_21 : decode cX10_seed 21 = .ok (.ireturn, 1) := by decide +kernel
theorem dX10_seed_22 : decode cX10_seed 22 = .ok (.aload_n 0, 1) := by decide +kernel
theorem dX10_seed_23 : decode cX10_seed 23 = .ok (.invokevirtual 104, 3) := by decide +kernel
theorem dX10_seed_26 : decode cX10_seed 26 = .ok (.aload_n 0, 1) := by decide +kernel
theorem dX10_seed_27 : decode cX10_seed 27 = .ok (.getfield 7, 3) := by decide +kernel
theorem dX10_seed_30 : decode cX10_seed 30 = .ok (.iconst 2, 1) := by decide +kernel
theorem dX10_seed_31 : decode cX10_seed 31 = .ok (.iaload, 1) := by decide +kernel
theorem dX10_seed_32 : decode cX10_seed 32 = .ok (.istore_n 2, 1) := by decide +kernel
theorem dX10_seed_33 : decode cX10_seed 33 = .ok (.aload_n 0, 1) := by decide +kernel
theorem dX10_seed_34 : decode cX10_seed 34 = .ok (.getfield 7, 3) := by decide +kernel
theorem dX10_seed_37 : decode cX10_seed 37 = .ok (.iconst 2, 1) := by decide +kernel
theorem dX10_seed_38 : decode cX10_seed 38 = .ok (.iload_n 1, 1) := by decide +kernel
theorem dX10_seed_39 : decode cX10_seed 39 = .ok (.iastore, 1) := by decide +kernel
theorem dX10_seed_40 : decode cX10_seed 40 = .ok (.iload_n 2, 1) := by decide +kernel
theorem dX10_seed_41 : decode cX10_seed 41 = .ok (.ireturn, 1) := by decide +kernel
theorem dX10_draw_0 : decode cX10_draw 0 = .ok (.aload_n 0, 1) := by decide +kernel
theorem dX10_draw_1 : decode cX10_draw 1 = .ok (.iload_n 1, 1) := by decide +kernel
theorem dX10_draw_2 : decode cX10_draw 2 = .ok (.iconst 1, 1) := by decide +kernel
theorem dX10_draw_3 : decode cX10_draw 3 = .ok (.bipush 64, 2) := by decide +kernel
theorem dX10_draw_5 : decode cX10_draw 5 = .ok (.invokestatic 46, 3) := by decide +kernel
theorem dX10_draw_8 : decode cX10_draw 8 = .ok (.ifCond .ne 7, 3) := by decide +kernel
theorem dX10_draw_11 : decode cX10_draw 11 = .ok (.iconst 1, 1) := by decide +kernel
theorem dX10_draw_12 : decode cX10_draw 12 = .ok (.goto 22, 3) := by decide +kernel
theorem dX10_draw_15 : decode cX10_draw 15 = .ok (.aload_n 0, 1) := by decide +kernel
theorem dX10_draw_16 : decode cX10_draw 16 = .ok (.getfield 7, 3) := by decide +kernel
theorem dX10_draw_19 : decode cX10_draw 19 = .ok (.iconst 3, 1) := by decide +kernel
theorem dX10_draw_20 : decode cX10_draw 20 = .ok (.iaload, 1) := by decide +kernel
theorem dX10_draw_21 : decode cX10_draw 21 = .ok (.iload_n 1, 1) := by decide +kernel
theorem dX10_draw_22 : decode cX10_draw 22 = .ok (.iadd, 1) := by decide +kernel
theorem dX10_draw_23 : decode cX10_draw 23 = .ok (.sipush 9999, 3) := by decide +kernel
theorem dX10_draw_26 : decode cX10_draw 26 = .ok (.if_icmp .le 7, 3) := by decide +kernel
theorem dX10_draw_29 : decode cX10_draw 29 = .ok (.iconst 2, 1) := by decide +kernel
theorem dX10_draw_30 : decode cX10_draw 30 = .ok (.goto 4, 3) := by decide +kernel
theorem dX10_draw_33 : decode cX10_draw 33 = .ok (.iconst 0, 1) := by decide +kernel
theorem dX10_draw_34 : decode cX10_draw 34 = .ok (.putfield 39, 3) := by decide +kernel
theorem dX10_draw_37 : decode cX10_draw 37 = .ok (.aload_n 0, 1) := by decide +kernel
theorem dX10_draw_38 : decode cX10_draw 38 = .ok (.getfield 39, 3) := by decide +kernel
theorem dX10_draw_41 : decode cX10_draw 41 = .ok (.ifCond .le 5, 3) := by decide +kernel
theorem dX10_draw_44 : decode cX10_draw 44 = .ok (.iconst 0, 1) := by decide +kernel
theorem dX10_draw_45 : decode cX10_draw 45 = .ok (.ireturn, 1) := by decide +kernel
theorem dX10_draw_46 : decode cX10_draw 46 = .ok (.aload_n 0, 1) := by decide +kernel
theorem dX10_draw_47 : decode cX10_draw 47 = .ok (.invokevirtual 104, 3) := by decide +kernel
theorem dX10_draw_50 : decode cX10_draw 50 = .ok (.iconst 0, 1) := by decide +kernel
theorem dX10_draw_51 : decode cX10_draw 51 = .ok (.istore_n 2, 1) := by decide +kernel
theorem dX10_draw_52 : decode cX10_draw 52 = .ok (.iconst 0, 1) := by decide +kernel
theorem dX10_draw_53 : decode cX10_draw 53 = .ok (.istore_n 3, 1) := by decide +kernel
theorem dX10_draw_54 : decode cX10_draw 54 = .ok (.iload_n 3, 1) := by decide +kernel
theorem dX10_draw_55 : decode cX10_draw 55 = .ok (.iload_n 1, 1) := by decide +kernel
theorem dX10_draw_56 : decode cX10_draw 56 = .ok (.if_icmp .ge 20, 3) := by decide +kernel
theorem dX10_draw_59 : decode cX10_draw 59 = .ok (.aload_n 0, 1) := by decide +kernel
theorem dX10_draw_60 : decode cX10_draw 60 = .ok (.invokevirtual 123, 3) := by decide +kernel
theorem dX10_draw_63 : decode cX10_draw 63 = .ok (.istore 4, 2) := by decide +kernel
theorem dX10_draw_65 : decode cX10_draw 65 = .ok (.iload_n 2, 1) := by decide +kernel
theorem dX10_draw_66 : decode cX10_draw 66 = .ok (.iload 4, 2) := by decide +kernel
theorem dX10_draw_68 : decode cX10_draw 68 = .ok (.iadd, 1) := by decide +kernel
theorem dX10_draw_69 : decode cX10_draw 69 = .ok (.istore_n 2, 1) := by decide +kernel
theorem dX10_draw_70 : decode cX10_draw 70 = .ok (.iinc 3 1, 3) := by decide +kernel
theorem dX10_draw_73 : decode cX10_draw 73 = .ok (.goto (-19), 3) := by decide +kernel
theorem dX10_draw_76 : decode cX10_draw 76 = .ok (.iload_n 2, 1) := by decide +kernel
theorem dX10_draw_77 : decode cX10_draw 77 = .ok (.ireturn, 1) := by decide +kernel
theorem dX10_forget_0 : decode cX10_forget 0 = .ok (.aload_n 0, 1) := by decide +kernel
theorem dX10_forget_1 : decode cX10_forget 1 = .ok (.iconst 0, 1) := by decide +kernel
theorem dX10_forget_2 : decode cX10_forget 2 = .ok (.putfield 39, 3) := by decide +kernel
theorem dX10_forget_5 : decode cX10_forget 5 = .ok (.aload_n 0, 1) := by decide +kernel
theorem dX10_forget_6 : decode cX10_forget 6 = .ok (.invokevirtual 104, 3) := by decide +kernel
theorem dX10_forget_9 : decode cX10_forget 9 = .ok (.aload_n 0, 1) := by decide +kernel
theorem dX10_forget_10 : decode cX10_forget 10 = .ok (.invokevirtual 107, 3) := by decide +kernel
theorem dX10_forget_13 : decode cX10_forget 13 = .ok (.ireturn, 1) := by decide +kernel
theorem dX10_append_0 : decode cX10_append 0 = .ok (.aload_n 0, 1) := by decide +kernel
theorem dX10_append_1 : decode cX10_append 1 = .ok (.iload_n 1, 1) := by decide +kernel
theorem dX10_append_2 : decode cX10_append 2 = .ok (.bipush 33, 2) := by decide +kernel
theorem dX10_append_4 : decode cX10_append 4 = .ok (.bipush 126, 2) := by decide +kernel
theorem dX10_append_6 : decode cX10_append 6 = .ok (.invokestatic 46, 3) := by decide +kernel
theorem dX10_append_9 : decode cX10_append 9 = .ok (.ifCond .ne 7, 3) := by decide +kernel
theorem dX10_append_12 : decode cX10_append 12 = .ok (.iconst 1, 1) := by decide +kernel
theorem dX10_append_13 : decode cX10_append 13 = .ok (.goto 17, 3) := by decide +kernel
theorem dX10_append_16 : decode cX10_append 16 = .ok (.aload_n 0, 1) := by decide +kernel
theorem dX10_append_17 : decode cX10_append 17 = .ok (.getfield 126, 3) := by decide +kernel
theorem dX10_append_20 : decode cX10_append 20 = .ok (.bipush 60, 2) := by decide +kernel
theorem dX10_append_22 : decode cX10_append 22 = .ok (.if_icmp .ne 7, 3) := by decide +kernel
theorem dX10_append_25 : decode cX10_append 25 = .ok (.iconst 2, 1) := by decide +kernel
theorem dX10_append_26 : decode cX10_append 26 = .ok (.goto 4, 3) := by decide +kernel
theorem dX10_append_29 : decode cX10_append 29 = .ok (.iconst 0, 1) := by decide +kernel
theorem dX10_append_30 : decode cX10_append 30 = .ok (.putfield 39, 3) := by decide +kernel
theorem dX10_append_33 : decode cX10_append 33 = .ok (.aload_n 0, 1) := by decide +kernel
theorem dX10_append_34 : decode cX10_append 34 = .ok (.getfield 39, 3) := by decide +kernel
theorem dX10_append_37 : decode cX10_append 37 = .ok (.ifCond .le 5, 3) := by decide +kernel
theorem dX10_append_40 : decode cX10_append 40 = .ok (.iconst 0, 1) := by decide +kernel
theorem dX10_append_41 : decode cX10_append 41 = .ok (.ireturn, 1) := by decide +kernel
theorem dX10_append_42 : decode cX10_append 42 = .ok (.aload_n 0, 1) := by decide +kernel
theorem dX10_append_43 : decode cX10_append 43 = .ok (.getfield 23, 3) := by decide +kernel
theorem dX10_append_46 : decode cX10_append 46 = .ok (.aload_n 0, 1) := by decide +kernel
theorem dX10_append_47 : decode cX10_append 47 = .ok (.getfield 126, 3) := by decide +kernel
theorem dX10_append_50 : decode cX10_append 50 = .ok (.iload_n 1, 1) := by decide +kernel
theorem dX10_append_51 : decode cX10_append 51 = .ok (.iastore, 1) := by decide +kernel
theorem dX10_append_52 : decode cX10_append 52 = .ok (.aload_n 0, 1) := by decide +kernel
theorem dX10_append_53 : decode cX10_append 53 = .ok (.dup, 1) := by decide +kernel
theorem dX10_append_54 : decode cX10_append 54 = .ok (.getfield 126, 3) := by decide +kernel
theorem dX10_append_57 : decode cX10_append 57 = .ok (.iconst 1, 1) := by decide +kernel
theorem dX10_append_58 : decode cX10_append 58 = .ok (.iadd, 1) := by decide +kernel
theorem dX10_append_59 : decode cX10_append 59 = .ok (.putfield 126, 3) := by decide +kernel
theorem dX10_append_62 : decode cX10_append 62 = .ok (.aload_n 0, 1) := by decide +kernel
theorem dX10_append_63 : decode cX10_append 63 = .ok (.getfield 126, 3) := by decide +kernel
theorem dX10_append_66 : decode cX10_append 66 = .ok (.ireturn, 1) := by decide +kernel
theorem dX10_clearBuffer_0 : decode cX10_clearBuffer 0 = .ok (.aload_n 0, 1) := by decide +kernel
theorem dX10_clearBuffer_1 : decode cX10_clearBuffer 1 = .ok (.iconst 0, 1) := by decide +kernel
theorem dX10_clearBuffer_2 : decode cX10_clearBuffer 2 = .ok (.putfield 39, 3) := by decide +kernel
theorem dX10_clearBuffer_5 : decode cX10_clearBuffer 5 = .ok (.aload_n 0, 1) := by decide +kernel
theorem dX10_clearBuffer_6 : decode cX10_clearBuffer 6 = .ok (.getfield 126, 3) := by decide +kernel
theorem dX10_clearBuffer_9 : decode cX10_clearBuffer 9 = .ok (.istore_n 1, 1) := by decide +kernel
theorem dX10_clearBuffer_10 : decode cX10_clearBuffer 10 = .ok (.aload_n 0, 1) := by decide +kernel
theorem dX10_clearBuffer_11 : decode cX10_clearBuffer 11 = .ok (.iconst 0, 1) := by decide +kernel
theorem dX10_clearBuffer_12 : decode cX10_clearBuffer 12 = .ok (.putfield 126, 3) := by decide +kernel
theorem dX10_clearBuffer_15 : decode cX10_clearBuffer 15 = .ok (.iload_n 1, 1) := by decide +kernel
theorem dX10_clearBuffer_16 : decode cX10_clearBuffer 16 = .ok (.ireturn, 1) := by decide +kernel
theorem dX10_beginPart_0 : decode cX10_beginPart 0 = .ok (.iconst 0, 1) := by decide +kernel
theorem dX10_beginPart_1 : decode cX10_beginPart 1 = .ok (.istore_n 1, 1) := by decide +kernel
theorem dX10_beginPart_2 : decode cX10_beginPart 2 = .ok (.iload_n 1, 1) := by decide +kernel
theorem dX10_beginPart_3 : decode cX10_beginPart 3 = .ok (.bipush 6, 2) := by decide +kernel
theorem dX10_beginPart_5 : decode cX10_beginPart 5 = .ok (.if_icmp .ge 24, 3) := by decide +kernel
theorem dX10_beginPart_8 : decode cX10_beginPart 8 = .ok (.aload_n 0, 1) := by decide +kernel
theorem dX10_beginPart_9 : decode cX10_beginPart 9 = .ok (.getfield 33, 3) := by decide +kernel
theorem dX10_beginPart_12 : decode cX10_beginPart 12 = .ok (.bipush 6, 2) := by decide +kernel
theorem dX10_beginPart_14 : decode cX10_beginPart 14 = .ok (.aload_n 0, 1) := by decide +kernel
theorem dX10_beginPart_15 : decode cX10_beginPart 15 = .ok (.getfield 129, 3) := by decide +kernel
theorem dX10_beginPart_18 : decode cX10_beginPart 18 = .ok (.imul, 1) := by decide +kernel
theorem dX10_beginPart_19 : decode cX10_beginPart 19 = .ok (.iload_n 1, 1) := by decide +kernel
theorem dX10_beginPart_20 : decode cX10_beginPart 20 = .ok (.iadd, 1) := by decide +kernel
theorem dX10_beginPart_21 : decode cX10_beginPart 21 = .ok (.iconst 0, 1) := by decide +kernel
theorem dX10_beginPart_22 : decode cX10_beginPart 22 = .ok (.iastore, 1) := by decide +kernel
theorem dX10_beginPart_23 : decode cX10_beginPart 23 = .ok (.iinc 1 1, 3) := by decide +kernel
theorem dX10_beginPart_26 : decode cX10_beginPart 26 = .ok (.goto (-24), 3) := by decide +kernel
theorem dX10_beginPart_29 : decode cX10_beginPart 29 = .ok (.aload_n 0, 1) := by decide +kernel
theorem dX10_beginPart_30 : decode cX10_beginPart 30 = .ok (.iconst 0, 1) := by decide +kernel
theorem dX10_beginPart_31 : decode cX10_beginPart 31 = .ok (.putfield 132, 3) := by decide +kernel
theorem dX10_beginPart_34 : decode cX10_beginPart 34 = .ok (.aload_n 0, 1) := by decide +kernel
theorem dX10_beginPart_35 : decode cX10_beginPart 35 = .ok (.iconst 0, 1) := by decide +kernel
theorem dX10_beginPart_36 : decode cX10_beginPart 36 = .ok (.putfield 135, 3) := by decide +kernel
theorem dX10_beginPart_39 : decode cX10_beginPart 39 = .ok (.return_, 1) := by decide +kernel
theorem dX10_takes_0 : decode cX10_takes 0 = .ok (.iload_n 1, 1) := by decide +kernel
theorem dX10_takes_1 : decode cX10_takes 1 = .ok (.bipush 59, 2) := by decide +kernel
theorem dX10_takes_3 : decode cX10_takes 3 = .ok (.if_icmp .ne 26, 3) := by decide +kernel
theorem dX10_takes_6 : decode cX10_takes 6 = .ok (.aload_n 0, 1) := by decide +kernel
theorem dX10_takes_7 : decode cX10_takes 7 = .ok (.getfield 135, 3) := by decide +kernel
theorem dX10_takes_10 : decode cX10_takes 10 = .ok (.ifCond .le 19, 3) := by decide +kernel
theorem dX10_takes_13 : decode cX10_takes 13 = .ok (.aload_n 0, 1) := by decide +kernel
theorem dX10_takes_14 : decode cX10_takes 14 = .ok (.dup, 1) := by decide +kernel
theorem dX10_takes_15 : decode cX10_takes 15 = .ok (.getfield 129, 3) := by decide +kernel
theorem dX10_takes_18 : decode cX10_takes 18 = .ok (.iconst 1, 1) := by decide +kernel
theorem dX10_takes_19 : decode cX10_takes 19 = .ok (.iadd, 1) := by decide +kernel
theorem dX10_takes_20 : decode cX10_takes 20 = .ok (.putfield 129, 3) := by decide +kernel
theorem dX10_takes_23 : decode cX10_takes 23 = .ok (.aload_n 0, 1) := by decide +kernel
theorem dX10_takes_24 : decode cX10_takes 24 = .ok (.invokevirtual 138, 3) := by decide +kernel
theorem dX10_takes_27 : decode cX10_takes 27 = .ok (.iconst 1, 1) := by decide +kernel
theorem dX10_takes_28 : decode cX10_takes 28 = .ok (.ireturn, 1) := by decide +kernel
theorem dX10_takes_29 : decode cX10_takes 29 = .ok (.iload_n 1, 1) := by decide +kernel
theorem dX10_takes_30 : decode cX10_takes 30 = .ok (.bipush 48, 2) := by decide +kernel
theorem dX10_takes_32 : decode cX10_takes 32 = .ok (.isub, 1) := by decide +kernel
theorem dX10_takes_33 : decode cX10_takes 33 = .ok (.istore_n 2, 1) := by decide +kernel
theorem dX10_takes_34 : decode cX10_takes 34 = .ok (.aload_n 0, 1) := by decide +kernel
theorem dX10_takes_35 : decode cX10_takes 35 = .ok (.getfield 132, 3) := by decide +kernel
theorem dX10_takes_38 : decode cX10_takes 38 = .ok (.iconst 5, 1) := by decide +kernel
theorem dX10_takes_39 : decode cX10_takes 39 = .ok (.if_icmp .ne 7, 3) := by decide +kernel
theorem dX10_takes_42 : decode cX10_takes 42 = .ok (.iconst 1, 1) := by decide +kernel
theorem dX10_takes_43 : decode cX10_takes 43 = .ok (.goto 4, 3) := by decide +kernel
theorem dX10_takes_46 : decode cX10_takes 46 = .ok (.iconst 0, 1) := by decide +kernel
theorem dX10_takes_47 : decode cX10_takes 47 = .ok (.istore_n 3, 1) := by decide +kernel
theorem dX10_takes_48 : decode cX10_takes 48 = .ok (.iload_n 2, 1) := by decide +kernel
theorem dX10_takes_49 : decode cX10_takes 49 = .ok (.iconst 0, 1) := by decide +kernel
theorem dX10_takes_50 : decode cX10_takes 50 = .ok (.bipush 9, 2) := by decide +kernel
theorem dX10_takes_52 : decode cX10_takes 52 = .ok (.invokestatic 46, 3) := by decide +kernel
theorem dX10_takes_55 : decode cX10_takes 55 = .ok (.ifCond .eq 25, 3) := by decide +kernel
theorem dX10_takes_58 : decode cX10_takes 58 = .ok (.aload_n 0, 1) := by decide +kernel
theorem dX10_takes_59 : decode cX10_takes 59 = .ok (.getfield 132, 3) := by decide +kernel
theorem dX10_takes_62 : decode cX10_takes 62 = .ok (.bipush 6, 2) := by decide +kernel
theorem dX10_takes_64 : decode cX10_takes 64 = .ok (.if_icmp .eq 16, 3) := by decide +kernel
theorem dX10_takes_67 : decode cX10_takes 67 = .ok (.iload_n 3, 1) := by decide +kernel
theorem dX10_takes_68 : decode cX10_takes 68 = .ok (.ifCond .eq 14, 3) := by decide +kernel
theorem dX10_takes_71 : decode cX10_takes 71 = .ok (.aload_n 0, 1) := by decide +kernel
theorem dX10_takes_72 : decode cX10_takes 72 = .ok (.getfield 135, 3) := by decide +kernel
theorem dX10_takes_75 : decode cX10_takes 75 = .ok (.iload_n 2, 1) := by decide +kernel
theorem dX10_takes_76 : decode cX10_takes 76 = .ok (.iadd, 1) := by decide +kernel
theorem dX10_takes_77 : decode cX10_takes 77 = .ok (.ifCond .ne 5, 3) := by decide +kernel
theorem dX10_takes_80 : decode cX10_takes 80 = .ok (.iconst 0, 1) := by decide +kernel
theorem dX10_takes_81 : decode cX10_takes 81 = .ok (.ireturn, 1) := by decide +kernel
theorem dX10_takes_82 : decode cX10_takes 82 = .ok (.aload_n 0, 1) := by decide +kernel
theorem dX10_takes_83 : decode cX10_takes 83 = .ok (.getfield 33, 3) := by decide +kernel
theorem dX10_takes_86 : decode cX10_takes 86 = .ok (.bipush 6, 2) := by decide +kernel
theorem dX10_takes_88 : decode cX10_takes 88 = .ok (.aload_n 0, 1) := by decide +kernel
theorem dX10_takes_89 : decode cX10_takes 89 = .ok (.getfield 129, 3) := by decide +kernel
theorem dX10_takes_92 : decode cX10_takes 92 = .ok (.imul, 1) := by decide +kernel
theorem dX10_takes_93 : decode cX10_takes 93 = .ok (.aload_n 0, 1) := by decide +kernel
theorem dX10_takes_94 : decode cX10_takes 94 = .ok (.getfield 132, 3) := by decide +kernel
theorem dX10_takes_97 : decode cX10_takes 97 = .ok (.iadd, 1) := by decide +kernel
theorem dX10_takes_98 : decode cX10_takes 98 = .ok (.iload_n 2, 1) := by decide +kernel
theorem dX10_takes_99 : decode cX10_takes 99 = .ok (.iastore, 1) := by decide +kernel
theorem dX10_takes_100 : decode cX10_takes 100 = .ok (.aload_n 0, 1) := by decide +kernel
theorem dX10_takes_101 : decode cX10_takes 101 = .ok (.dup, 1) := by decide +kernel
theorem dX10_takes_102 : decode cX10_takes 102 = .ok (.getfield 132, 3) := by decide +kernel
theorem dX10_takes_105 : decode cX10_takes 105 = .ok (.iconst 1, 1) := by decide +kernel
theorem dX10_takes_106 : decode cX10_takes 106 = .ok (.iadd, 1) := by decide +kernel
theorem dX10_takes_107 : decode cX10_takes 107 = .ok (.putfield 132, 3) := by decide +kernel
theorem dX10_takes_110 : decode cX10_takes 110 = .ok (.aload_n 0, 1) := by decide +kernel
theorem dX10_takes_111 : decode cX10_takes 111 = .ok (.dup, 1) := by decide +kernel
theorem dX10_takes_112 : decode cX10_takes 112 = .ok (.getfield 135, 3) := by decide +kernel
theorem dX10_takes_115 : decode cX10_takes 115 = .ok (.iload_n 2, 1) := by decide +kernel
theorem dX10_takes_116 : decode cX10_takes 116 = .ok (.iadd, 1) := by decide +kernel
theorem dX10_takes_117 : decode cX10_takes 117 = .ok (.putfield 135, 3) := by decide +kernel
theorem dX10_takes_120 : decode cX10_takes 120 = .ok (.iconst 1, 1) := by decide +kernel
theorem dX10_takes_121 : decode cX10_takes 121 = .ok (.ireturn, 1) := by decide +kernel
theorem dX10_rightUpTo_0 : decode cX10_rightUpTo 0 = .ok (.aload_n 0, 1) := by decide +kernel
theorem dX10_rightUpTo_1 : decode cX10_rightUpTo 1 = .ok (.iconst 0, 1) := by decide +kernel
theorem dX10_rightUpTo_2 : decode cX10_rightUpTo 2 = .ok (.putfield 129, 3) := by decide +kernel
theorem dX10_rightUpTo_5 : decode cX10_rightUpTo 5 = .ok (.aload_n 0, 1) := by decide +kernel
theorem dX10_rightUpTo_6 : decode cX10_rightUpTo 6 = .ok (.invokevirtual 138, 3) := by decide +kernel
theorem dX10_rightUpTo_9 : decode cX10_rightUpTo 9 = .ok (.iconst 0, 1) := by decide +kernel
theorem dX10_rightUpTo_10 : decode cX10_rightUpTo 10 = .ok (.istore_n 1, 1) := by decide +kernel
theorem dX10_rightUpTo_11 : decode cX10_rightUpTo 11 = .ok (.iload_n 1, 1) := by decide +kernel
theorem dX10_rightUpTo_12 : decode cX10_rightUpTo 12 = .ok (.aload_n 0, 1) := by decide +kernel
theorem dX10_rightUpTo_13 : decode cX10_rightUpTo 13 = .ok (.getfield 126, 3) := by decide +kernel
theorem dX10_rightUpTo_16 : decode cX10_rightUpTo 16 = .ok (.if_icmp .ge 22, 3) := by decide +kernel
theorem dX10_rightUpTo_19 : decode cX10_rightUpTo 19 = .ok (.aload_n 0, 1) := by decide +kernel
theorem dX10_rightUpTo_20 : decode cX10_rightUpTo 20 = .ok (.aload_n 0, 1) := by decide +kernel
theorem dX10_rightUpTo_21 : decode cX10_rightUpTo 21 = .ok (.getfield 23, 3) := by decide +kernel
theorem dX10_rightUpTo_24 : decode cX10_rightUpTo 24 = .ok (.iload_n 1, 1) := by decide +kernel
theorem dX10_rightUpTo_25 : decode cX10_rightUpTo 25 = .ok (.iaload, 1) := by decide +kernel
theorem dX10_rightUpTo_26 : decode cX10_rightUpTo 26 = .ok (.invokevirtual 141, 3) := by decide +kernel
theorem dX10_rightUpTo_29 : decode cX10_rightUpTo 29 = .ok (.ifCond .eq 9, 3) := by decide +kernel
theorem dX10_rightUpTo_32 : decode cX10_rightUpTo 32 = .ok (.iinc 1 1, 3) := by decide +kernel
theorem dX10_rightUpTo_35 : decode cX10_rightUpTo 35 = .ok (.goto (-24), 3) := by decide +kernel
theorem dX10_rightUpTo_38 : decode cX10_rightUpTo 38 = .ok (.iload_n 1, 1) := by decide +kernel
theorem dX10_rightUpTo_39 : decode cX10_rightUpTo 39 = .ok (.ireturn, 1) := by decide +kernel
theorem dX10_firstError_0 : decode cX10_firstError 0 = .ok (.aload_n 0, 1) := by decide +kernel
theorem dX10_firstError_1 : decode cX10_firstError 1 = .ok (.iconst 0, 1) := by decide +kernel
theorem dX10_firstError_2 : decode cX10_firstError 2 = .ok (.putfield 39, 3) := by decide +kernel
theorem dX10_firstError_5 : decode cX10_firstError 5 = .ok (.aload_n 0, 1) := by decide +kernel
theorem dX10_firstError_6 : decode cX10_firstError 6 = .ok (.invokevirtual 144, 3) := by decide +kernel
theorem dX10_firstError_9 : decode cX10_firstError 9 = .ok (.ireturn, 1) := by decide +kernel
theorem dX10_addAll_0 : decode cX10_addAll 0 = .ok (.aload_n 0, 1) := by decide +kernel
theorem dX10_addAll_1 : decode cX10_addAll 1 = .ok (.invokevirtual 144, 3) := by decide +kernel
theorem dX10_addAll_4 : decode cX10_addAll 4 = .ok (.aload_n 0, 1) := by decide +kernel
theorem dX10_addAll_5 : decode cX10_addAll 5 = .ok (.getfield 126, 3) := by decide +kernel
theorem dX10_addAll_8 : decode cX10_addAll 8 = .ok (.if_icmp .ne 14, 3) := by decide +kernel
theorem dX10_addAll_11 : decode cX10_addAll 11 = .ok (.aload_n 0, 1) := by decide +kernel
theorem dX10_addAll_12 : decode cX10_addAll 12 = .ok (.getfield 135, 3) := by decide +kernel
theorem dX10_addAll_15 : decode cX10_addAll 15 = .ok (.ifCond .le 7, 3) := by decide +kernel
theorem dX10_addAll_18 : decode cX10_addAll 18 = .ok (.iconst 1, 1) := by decide +kernel
theorem dX10_addAll_19 : decode cX10_addAll 19 = .ok (.goto 4, 3) := by decide +kernel
theorem dX10_addAll_22 : decode cX10_addAll 22 = .ok (.iconst 0, 1) := by decide +kernel
theorem dX10_addAll_23 : decode cX10_addAll 23 = .ok (.istore_n 1, 1) := by decide +kernel
theorem dX10_addAll_24 : decode cX10_addAll 24 = .ok (.aload_n 0, 1) := by decide +kernel
theorem dX10_addAll_25 : decode cX10_addAll 25 = .ok (.iload_n 1, 1) := by decide +kernel
theorem dX10_addAll_26 : decode cX10_addAll 26 = .ok (.ifCond .ne 7, 3) := by decide +kernel
theorem dX10_addAll_29 : decode cX10_addAll 29 = .ok (.iconst 1, 1) := by decide +kernel
theorem dX10_addAll_30 : decode cX10_addAll 30 = .ok (.goto 26, 3) := by decide +kernel
theorem dX10_addAll_33 : decode cX10_addAll 33 = .ok (.aload_n 0, 1) := by decide +kernel
theorem dX10_addAll_34 : decode cX10_addAll 34 = .ok (.getfield 7, 3) := by decide +kernel
theorem dX10_addAll_37 : decode cX10_addAll 37 = .ok (.iconst 0, 1) := by decide +kernel
theorem dX10_addAll_38 : decode cX10_addAll 38 = .ok (.iaload, 1) := by decide +kernel
theorem dX10_addAll_39 : decode cX10_addAll 39 = .ok (.aload_n 0, 1) := by decide +kernel
theorem dX10_addAll_40 : decode cX10_addAll 40 = .ok (.getfield 129, 3) := by decide +kernel
theorem dX10_addAll_43 : decode cX10_addAll 43 = .ok (.iadd, 1) := by decide +kernel
theorem dX10_addAll_44 : decode cX10_addAll 44 = .ok (.iconst 1, 1) := by decide +kernel
theorem dX10_addAll_45 : decode cX10_addAll 45 = .ok (.iadd, 1) := by decide +kernel
theorem dX10_addAll_46 : decode cX10_addAll 46 = .ok (.bipush 6, 2) := by decide +kernel
theorem dX10_addAll_48 : decode cX10_addAll 48 = .ok (.if_icmp .le 7, 3) := by decide +kernel
theorem dX10_addAll_51 : decode cX10_addAll 51 = .ok (.iconst 2, 1) := by decide +kernel
theorem dX10_addAll_52 : decode cX10_addAll 52 = .ok (.goto 4, 3) := by decide +kernel
theorem dX10_addAll_55 : decode cX10_addAll 55 = .ok (.iconst 0, 1) := by decide +kernel
theorem dX10_addAll_56 : decode cX10_addAll 56 = .ok (.putfield 39, 3) := by decide +kernel
theorem dX10_addAll_59 : decode cX10_addAll 59 = .ok (.aload_n 0, 1) := by decide +kernel
theorem dX10_addAll_60 : decode cX10_addAll 60 = .ok (.getfield 39, 3) := by decide +kernel
theorem dX10_addAll_63 : decode cX10_addAll 63 = .ok (.ifCond .le 5, 3) := by decide +kernel
theorem dX10_addAll_66 : decode cX10_addAll 66 = .ok (.iconst 0, 1) := by decide +kernel
theorem dX10_addAll_67 : decode cX10_addAll 67 = .ok (.ireturn, 1) := by decide +kernel
theorem dX10_addAll_68 : decode cX10_addAll 68 = .ok (.aload_n 0, 1) := by decide +kernel
theorem dX10_addAll_69 : decode cX10_addAll 69 = .ok (.invokevirtual 104, 3) := by decide +kernel
theorem dX10_addAll_72 : decode cX10_addAll 72 = .ok (.aload_n 0, 1) := by decide +kernel
theorem dX10_addAll_73 : decode cX10_addAll 73 = .ok (.invokevirtual 107, 3) := by decide +kernel
theorem dX10_addAll_76 : decode cX10_addAll 76 = .ok (.istore_n 2, 1) := by decide +kernel
theorem dX10_addAll_77 : decode cX10_addAll 77 = .ok (.aload_n 0, 1) := by decide +kernel
theorem dX10_addAll_78 : decode cX10_addAll 78 = .ok (.iconst 0, 1) := by decide +kernel
theorem dX10_addAll_79 : decode cX10_addAll 79 = .ok (.putfield 126, 3) := by decide +kernel
theorem dX10_addAll_82 : decode cX10_addAll 82 = .ok (.iconst 0, 1) := by decide +kernel
theorem dX10_addAll_83 : decode cX10_addAll 83 = .ok (.istore_n 3, 1) := by decide +kernel
theorem dX10_addAll_84 : decode cX10_addAll 84 = .ok (.iload_n 3, 1) := by decide +kernel
theorem dX10_addAll_85 : decode cX10_addAll 85 = .ok (.aload_n 0, 1) := by decide +kernel
theorem dX10_addAll_86 : decode cX10_addAll 86 = .ok (.getfield 129, 3) := by decide +kernel
theorem dX10_addAll_89 : decode cX10_addAll 89 = .ok (.if_icmp .gt 77, 3) := by decide +kernel
theorem dX10_addAll_92 : decode cX10_addAll 92 = .ok (.iconst 0, 1) := by decide +kernel
theorem dX10_addAll_93 : decode cX10_addAll 93 = .ok (.istore 4, 2) := by decide +kernel
theorem dX10_addAll_95 : decode cX10_addAll 95 = .ok (.iload 4, 2) := by decide +kernel
theorem dX10_addAll_97 : decode cX10_addAll 97 = .ok (.bipush 6, 2) := by decide +kernel
theorem dX10_addAll_99 : decode cX10_addAll 99 = .ok (.if_icmp .ge 41, 3) := by decide +kernel
theorem dX10_addAll_102 : decode cX10_addAll 102 = .ok (.aload_n 0, 1) := by decide +kernel
theorem dX10_addAll_103 : decode cX10_addAll 103 = .ok (.getfield 7, 3) := by decide +kernel
theorem dX10_addAll_106 : decode cX10_addAll 106 = .ok (.bipush 11, 2) := by decide +kernel
theorem dX10_addAll_108 : decode cX10_addAll 108 = .ok (.bipush 6, 2) := by decide +kernel
theorem dX10_addAll_110 : decode cX10_addAll 110 = .ok (.aload_n 0, 1) := by decide +kernel
theorem dX10_addAll_111 : decode cX10_addAll 111 = .ok (.getfield 7, 3) := by decide +kernel
theorem dX10_addAll_114 : decode cX10_addAll 114 = .ok (.iconst 0, 1) := by decide +kernel
theorem dX10_addAll_115 : decode cX10_addAll 115 = .ok (.iaload, 1) := by decide +kernel
theorem dX10_addAll_116 : decode cX10_addAll 116 = .ok (.imul, 1) := by decide +kernel
theorem dX10_addAll_117 : decode cX10_addAll 117 = .ok (.iadd, 1) := by decide +kernel
theorem dX10_addAll_118 : decode cX10_addAll 118 = .ok (.iload 4, 2) := by decide +kernel
theorem dX10_addAll_120 : decode cX10_addAll 120 = .ok (.iadd, 1) := by decide +kernel
theorem dX10_addAll_121 : decode cX10_addAll 121 = .ok (.aload_n 0, 1) := by decide +kernel
theorem dX10_addAll_122 : decode cX10_addAll 122 = .ok (.getfield 33, 3) := by decide +kernel
theorem dX10_addAll_125 : decode cX10_addAll 125 = .ok (.bipush 6, 2) := by decide +kernel
theorem dX10_addAll_127 : decode cX10_addAll 127 = .ok (.iload_n 3, 1) := by decide +kernel
theorem dX10_addAll_128 : decode cX10_addAll 128 = .ok (.imul, 1) := by decide +kernel
theorem dX10_addAll_129 : decode cX10_addAll 129 = .ok (.iload 4, 2) := by decide +kernel
theorem dX10_addAll_131 : decode cX10_addAll 131 = .ok (.iadd, 1) := by decide +kernel
theorem dX10_addAll_132 : decode cX10_addAll 132 = .ok (.iaload, 1) := by decide +kernel
theorem dX10_addAll_133 : decode cX10_addAll 133 = .ok (.iastore, 1) := by decide +kernel
theorem dX10_addAll_134 : decode cX10_addAll 134 = .ok (.iinc 4 1, 3) := by decide +kernel
theorem dX10_addAll_137 : decode cX10_addAll 137 = .ok (.goto (-42), 3) := by decide +kernel
theorem dX10_addAll_140 : decode cX10_addAll 140 = .ok (.aload_n 0, 1) := by decide +kernel
theorem dX10_addAll_141 : decode cX10_addAll 141 = .ok (.aload_n 0, 1) := by decide +kernel
theorem dX10_addAll_142 : decode cX10_addAll 142 = .ok (.getfield 7, 3) := by decide +kernel
theorem dX10_addAll_145 : decode cX10_addAll 145 = .ok (.iconst 0, 1) := by decide +kernel
theorem dX10_addAll_146 : decode cX10_addAll 146 = .ok (.iaload, 1) := by decide +kernel
theorem dX10_addAll_147 : decode cX10_addAll 147 = .ok (.invokevirtual 110, 3) := by decide +kernel
theorem dX10_addAll_150 : decode cX10_addAll 150 = .ok (.aload_n 0, 1) := by decide +kernel
theorem dX10_addAll_151 : decode cX10_addAll 151 = .ok (.getfield 7, 3) := by decide +kernel
theorem dX10_addAll_154 : decode cX10_addAll 154 = .ok (.iconst 0, 1) := by decide +kernel
theorem dX10_addAll_155 : decode cX10_addAll 155 = .ok (.dup2, 1) := by decide +kernel
theorem dX10_addAll_156 : decode cX10_addAll 156 = .ok (.iaload, 1) := by decide +kernel
theorem dX10_addAll_157 : decode cX10_addAll 157 = .ok (.iconst 1, 1) := by decide +kernel
theorem dX10_addAll_158 : decode cX10_addAll 158 = .ok (.iadd, 1) := by decide +kernel
theorem dX10_addAll_159 : decode cX10_addAll 159 = .ok (.iastore, 1) := by decide +kernel
theorem dX10_addAll_160 : decode cX10_addAll 160 = .ok (.iinc 3 1, 3) := by decide +kernel
theorem dX10_addAll_163 : decode cX10_addAll 163 = .ok (.goto (-79), 3) := by decide +kernel
theorem dX10_addAll_166 : decode cX10_addAll 166 = .ok (.aload_n 0, 1) := by decide +kernel
theorem dX10_addAll_167 : decode cX10_addAll 167 = .ok (.getfield 7, 3) := by decide +kernel
theorem dX10_addAll_170 : decode cX10_addAll 170 = .ok (.iconst 0, 1) := by decide +kernel
theorem dX10_addAll_171 : decode cX10_addAll 171 = .ok (.iaload, 1) := by decide +kernel
theorem dX10_addAll_172 : decode cX10_addAll 172 = .ok (.ireturn, 1) := by decide +kernel
theorem dX10_undo_0 : decode cX10_undo 0 = .ok (.aload_n 0, 1) := by decide +kernel
theorem dX10_undo_1 : decode cX10_undo 1 = .ok (.aload_n 0, 1) := by decide +kernel
theorem dX10_undo_2 : decode cX10_undo 2 = .ok (.getfield 43, 3) := by decide +kernel
theorem dX10_undo_5 : decode cX10_undo 5 = .ok (.ifCond .le 7, 3) := by decide +kernel
theorem dX10_undo_8 : decode cX10_undo 8 = .ok (.iconst 0, 1) := by decide +kernel
theorem dX10_undo_9 : decode cX10_undo 9 = .ok (.goto 4, 3) := by decide +kernel
theorem dX10_undo_12 : decode cX10_undo 12 = .ok (.iconst 1, 1) := by decide +kernel
theorem dX10_undo_13 : decode cX10_undo 13 = .ok (.putfield 39, 3) := by decide +kernel
theorem dX10_undo_16 : decode cX10_undo 16 = .ok (.aload_n 0, 1) := by decide +kernel
theorem dX10_undo_17 : decode cX10_undo 17 = .ok (.getfield 39, 3) := by decide +kernel
theorem dX10_undo_20 : decode cX10_undo 20 = .ok (.ifCond .le 5, 3) := by decide +kernel
theorem dX10_undo_23 : decode cX10_undo 23 = .ok (.iconst 0, 1) := by decide +kernel
theorem dX10_undo_24 : decode cX10_undo 24 = .ok (.ireturn, 1) := by decide +kernel
theorem dX10_undo_25 : decode cX10_undo 25 = .ok (.aload_n 0, 1) := by decide +kernel
theorem dX10_undo_26 : decode cX10_undo 26 = .ok (.dup, 1) := by decide +kernel
theorem dX10_undo_27 : decode cX10_undo 27 = .ok (.getfield 43, 3) := by decide +kernel
theorem dX10_undo_30 : decode cX10_undo 30 = .ok (.iconst 1, 1) := by decide +kernel
theorem dX10_undo_31 : decode cX10_undo 31 = .ok (.isub, 1) := by decide +kernel
theorem dX10_undo_32 : decode cX10_undo 32 = .ok (.putfield 43, 3) := by decide +kernel
theorem dX10_undo_35 : decode cX10_undo 35 = .ok (.iconst 0, 1) := by decide +kernel
theorem dX10_undo_36 : decode cX10_undo 36 = .ok (.istore_n 1, 1) := by decide +kernel
theorem dX10_undo_37 : decode cX10_undo 37 = .ok (.iload_n 1, 1) := by decide +kernel
theorem dX10_undo_38 : decode cX10_undo 38 = .ok (.bipush 83, 2) := by decide +kernel
theorem dX10_undo_40 : decode cX10_undo 40 = .ok (.if_icmp .ge 29, 3) := by decide +kernel
theorem dX10_undo_43 : decode cX10_undo 43 = .ok (.aload_n 0, 1) := by decide +kernel
theorem dX10_undo_44 : decode cX10_undo 44 = .ok (.getfield 7, 3) := by decide +kernel
theorem dX10_undo_47 : decode cX10_undo 47 = .ok (.iload_n 1, 1) := by decide +kernel
theorem dX10_undo_48 : decode cX10_undo 48 = .ok (.aload_n 0, 1) := by decide +kernel
theorem dX10_undo_49 : decode cX10_undo 49 = .ok (.getfield 17, 3) := by decide +kernel
theorem dX10_undo_52 : decode cX10_undo 52 = .ok (.bipush 83, 2) := by decide +kernel
theorem dX10_undo_54 : decode cX10_undo 54 = .ok (.aload_n 0, 1) := by decide +kernel
theorem dX10_undo_55 : decode cX10_undo 55 = .ok (.getfield 43, 3) := by decide +kernel
theorem dX10_undo_58 : decode cX10_undo 58 = .ok (.imul, 1) := by decide +kernel
theorem dX10_undo_59 : decode cX10_undo 59 = .ok (.iload_n 1, 1) := by decide +kernel
theorem dX10_undo_60 : decode cX10_undo 60 = .ok (.iadd, 1) := by decide +kernel
theorem dX10_undo_61 : decode cX10_undo 61 = .ok (.iaload, 1) := by decide +kernel
theorem dX10_undo_62 : decode cX10_undo 62 = .ok (.iastore, 1) := by decide +kernel
theorem dX10_undo_63 : decode cX10_undo 63 = .ok (.iinc 1 1, 3) := by decide +kernel
theorem dX10_undo_66 : decode cX10_undo 66 = .ok (.goto (-29), 3) := by decide +kernel
end
section
theorem dX10_undo_69 : decode cX10_undo 69 = .ok (.iconst 0, 1) := by decide +kernel
theorem dX10_undo_70 : decode cX10_undo 70 = .ok (.istore_n 1, 1) := by decide +kernel
theorem dX10_undo_71 : decode cX10_undo 71 = .ok (.iload_n 1, 1) := by decide +kernel
theorem dX10_undo_72 : decode cX10_undo 72 = .ok (.iconst 4, 1) := by decide +kernel
theorem dX10_undo_73 : decode cX10_undo 73 = .ok (.if_icmp .ge 28, 3) := by decide +kernel
theorem dX10_undo_76 : decode cX10_undo 76 = .ok (.aload_n 0, 1) := by decide +kernel
theorem dX10_undo_77 : decode cX10_undo 77 = .ok (.getfield 13, 3) := by decide +kernel
theorem dX10_undo_80 : decode cX10_undo 80 = .ok (.iload_n 1, 1) := by decide +kernel
theorem dX10_undo_81 : decode cX10_undo 81 = .ok (.aload_n 0, 1) := by decide +kernel
theorem dX10_undo_82 : decode cX10_undo 82 = .ok (.getfield 20, 3) := by decide +kernel
theorem dX10_undo_85 : decode cX10_undo 85 = .ok (.iconst 4, 1) := by decide +kernel
theorem dX10_undo_86 : decode cX10_undo 86 = .ok (.aload_n 0, 1) := by decide +kernel
theorem dX10_undo_87 : decode cX10_undo 87 = .ok (.getfield 43, 3) := by decide +kernel
theorem dX10_undo_90 : decode cX10_undo 90 = .ok (.imul, 1) := by decide +kernel
theorem dX10_undo_91 : decode cX10_undo 91 = .ok (.iload_n 1, 1) := by decide +kernel
theorem dX10_undo_92 : decode cX10_undo 92 = .ok (.iadd, 1) := by decide +kernel
theorem dX10_undo_93 : decode cX10_undo 93 = .ok (.daload, 1) := by decide +kernel
theorem dX10_undo_94 : decode cX10_undo 94 = .ok (.dastore, 1) := by decide +kernel
theorem dX10_undo_95 : decode cX10_undo 95 = .ok (.iinc 1 1, 3) := by decide +kernel
theorem dX10_undo_98 : decode cX10_undo 98 = .ok (.goto (-27), 3) := by decide +kernel
theorem dX10_undo_101 : decode cX10_undo 101 = .ok (.aload_n 0, 1) := by decide +kernel
theorem dX10_undo_102 : decode cX10_undo 102 = .ok (.getfield 43, 3) := by decide +kernel
theorem dX10_undo_105 : decode cX10_undo 105 = .ok (.ireturn, 1) := by decide +kernel
theorem dX10_leastLoad_0 : decode cX10_leastLoad 0 = .ok (.iconst 0, 1) := by decide +kernel
theorem dX10_leastLoad_1 : decode cX10_leastLoad 1 = .ok (.istore_n 2, 1) := by decide +kernel
theorem dX10_leastLoad_2 : decode cX10_leastLoad 2 = .ok (.aload_n 0, 1) := by decide +kernel
theorem dX10_leastLoad_3 : decode cX10_leastLoad 3 = .ok (.iload_n 1, 1) := by decide +kernel
theorem dX10_leastLoad_4 : decode cX10_leastLoad 4 = .ok (.iload_n 2, 1) := by decide +kernel
theorem dX10_leastLoad_5 : decode cX10_leastLoad 5 = .ok (.invokevirtual 50, 3) := by decide +kernel
theorem dX10_leastLoad_8 : decode cX10_leastLoad 8 = .ok (.ifCond .ne 9, 3) := by decide +kernel
theorem dX10_leastLoad_11 : decode cX10_leastLoad 11 = .ok (.iinc 2 1, 3) := by decide +kernel
theorem dX10_leastLoad_14 : decode cX10_leastLoad 14 = .ok (.goto (-12), 3) := by decide +kernel
theorem dX10_leastLoad_17 : decode cX10_leastLoad 17 = .ok (.iload_n 2, 1) := by decide +kernel
theorem dX10_leastLoad_18 : decode cX10_leastLoad 18 = .ok (.ireturn, 1) := by decide +kernel
theorem dX10_greatestLoad_0 : decode cX10_greatestLoad 0 = .ok (.iconst 5, 1) := by decide +kernel
theorem dX10_greatestLoad_1 : decode cX10_greatestLoad 1 = .ok (.istore_n 2, 1) := by decide +kernel
theorem dX10_greatestLoad_2 : decode cX10_greatestLoad 2 = .ok (.aload_n 0, 1) := by decide +kernel
theorem dX10_greatestLoad_3 : decode cX10_greatestLoad 3 = .ok (.iload_n 1, 1) := by decide +kernel
theorem dX10_greatestLoad_4 : decode cX10_greatestLoad 4 = .ok (.iload_n 2, 1) := by decide +kernel
theorem dX10_greatestLoad_5 : decode cX10_greatestLoad 5 = .ok (.invokevirtual 50, 3) := by decide +kernel
theorem dX10_greatestLoad_8 : decode cX10_greatestLoad 8 = .ok (.ifCond .ne 9, 3) := by decide +kernel
theorem dX10_greatestLoad_11 : decode cX10_greatestLoad 11 = .ok (.iinc 2 (-1), 3) := by decide +kernel
theorem dX10_greatestLoad_14 : decode cX10_greatestLoad 14 = .ok (.goto (-12), 3) := by decide +kernel
theorem dX10_greatestLoad_17 : decode cX10_greatestLoad 17 = .ok (.iload_n 2, 1) := by decide +kernel
theorem dX10_greatestLoad_18 : decode cX10_greatestLoad 18 = .ok (.ireturn, 1) := by decide +kernel
theorem dX10_loadSum_0 : decode cX10_loadSum 0 = .ok (.iconst 0, 1) := by decide +kernel
theorem dX10_loadSum_1 : decode cX10_loadSum 1 = .ok (.istore_n 3, 1) := by decide +kernel
theorem dX10_loadSum_2 : decode cX10_loadSum 2 = .ok (.iconst 0, 1) := by decide +kernel
theorem dX10_loadSum_3 : decode cX10_loadSum 3 = .ok (.istore 4, 2) := by decide +kernel
theorem dX10_loadSum_5 : decode cX10_loadSum 5 = .ok (.iload 4, 2) := by decide +kernel
theorem dX10_loadSum_7 : decode cX10_loadSum 7 = .ok (.bipush 6, 2) := by decide +kernel
theorem dX10_loadSum_9 : decode cX10_loadSum 9 = .ok (.if_icmp .ge 36, 3) := by decide +kernel
theorem dX10_loadSum_12 : decode cX10_loadSum 12 = .ok (.iload_n 3, 1) := by decide +kernel
theorem dX10_loadSum_13 : decode cX10_loadSum 13 = .ok (.iload 4, 2) := by decide +kernel
theorem dX10_loadSum_15 : decode cX10_loadSum 15 = .ok (.iload_n 2, 1) := by decide +kernel
theorem dX10_loadSum_16 : decode cX10_loadSum 16 = .ok (.ifCond .eq 13, 3) := by decide +kernel
theorem dX10_loadSum_19 : decode cX10_loadSum 19 = .ok (.aload_n 0, 1) := by decide +kernel
theorem dX10_loadSum_20 : decode cX10_loadSum 20 = .ok (.iload_n 1, 1) := by decide +kernel
theorem dX10_loadSum_21 : decode cX10_loadSum 21 = .ok (.iload 4, 2) := by decide +kernel
theorem dX10_loadSum_23 : decode cX10_loadSum 23 = .ok (.invokevirtual 54, 3) := by decide +kernel
theorem dX10_loadSum_26 : decode cX10_loadSum 26 = .ok (.goto 10, 3) := by decide +kernel
theorem dX10_loadSum_29 : decode cX10_loadSum 29 = .ok (.aload_n 0, 1) := by decide +kernel
theorem dX10_loadSum_30 : decode cX10_loadSum 30 = .ok (.iload_n 1, 1) := by decide +kernel
theorem dX10_loadSum_31 : decode cX10_loadSum 31 = .ok (.iload 4, 2) := by decide +kernel
theorem dX10_loadSum_33 : decode cX10_loadSum 33 = .ok (.invokevirtual 50, 3) := by decide +kernel
theorem dX10_loadSum_36 : decode cX10_loadSum 36 = .ok (.imul, 1) := by decide +kernel
theorem dX10_loadSum_37 : decode cX10_loadSum 37 = .ok (.iadd, 1) := by decide +kernel
theorem dX10_loadSum_38 : decode cX10_loadSum 38 = .ok (.istore_n 3, 1) := by decide +kernel
theorem dX10_loadSum_39 : decode cX10_loadSum 39 = .ok (.iinc 4 1, 3) := by decide +kernel
theorem dX10_loadSum_42 : decode cX10_loadSum 42 = .ok (.goto (-37), 3) := by decide +kernel
theorem dX10_loadSum_45 : decode cX10_loadSum 45 = .ok (.iload_n 3, 1) := by decide +kernel
theorem dX10_loadSum_46 : decode cX10_loadSum 46 = .ok (.ireturn, 1) := by decide +kernel
theorem dX10_partNow_0 : decode cX10_partNow 0 = .ok (.iload_n 2, 1) := by decide +kernel
theorem dX10_partNow_1 : decode cX10_partNow 1 = .ok (.tableswitch 79 0 5 #[39, 45, 51, 57, 63, 63], 39) := by decide +kernel
theorem dX10_partNow_40 : decode cX10_partNow 40 = .ok (.aload_n 0, 1) := by decide +kernel
theorem dX10_partNow_41 : decode cX10_partNow 41 = .ok (.iload_n 1, 1) := by decide +kernel
theorem dX10_partNow_42 : decode cX10_partNow 42 = .ok (.invokevirtual 68, 3) := by decide +kernel
theorem dX10_partNow_45 : decode cX10_partNow 45 = .ok (.ireturn, 1) := by decide +kernel
theorem dX10_partNow_46 : decode cX10_partNow 46 = .ok (.aload_n 0, 1) := by decide +kernel
theorem dX10_partNow_47 : decode cX10_partNow 47 = .ok (.iload_n 1, 1) := by decide +kernel
theorem dX10_partNow_48 : decode cX10_partNow 48 = .ok (.invokevirtual 64, 3) := by decide +kernel
theorem dX10_partNow_51 : decode cX10_partNow 51 = .ok (.ireturn, 1) := by decide +kernel
theorem dX10_partNow_52 : decode cX10_partNow 52 = .ok (.aload_n 0, 1) := by decide +kernel
theorem dX10_partNow_53 : decode cX10_partNow 53 = .ok (.iload_n 1, 1) := by decide +kernel
theorem dX10_partNow_54 : decode cX10_partNow 54 = .ok (.invokevirtual 147, 3) := by decide +kernel
theorem dX10_partNow_57 : decode cX10_partNow 57 = .ok (.ireturn, 1) := by decide +kernel
theorem dX10_partNow_58 : decode cX10_partNow 58 = .ok (.aload_n 0, 1) := by decide +kernel
theorem dX10_partNow_59 : decode cX10_partNow 59 = .ok (.iload_n 1, 1) := by decide +kernel
theorem dX10_partNow_60 : decode cX10_partNow 60 = .ok (.invokevirtual 150, 3) := by decide +kernel
theorem dX10_partNow_63 : decode cX10_partNow 63 = .ok (.ireturn, 1) := by decide +kernel
theorem dX10_partNow_64 : decode cX10_partNow 64 = .ok (.aload_n 0, 1) := by decide +kernel
theorem dX10_partNow_65 : decode cX10_partNow 65 = .ok (.iload_n 1, 1) := by decide +kernel
theorem dX10_partNow_66 : decode cX10_partNow 66 = .ok (.iload_n 2, 1) := by decide +kernel
theorem dX10_partNow_67 : decode cX10_partNow 67 = .ok (.iconst 5, 1) := by decide +kernel
theorem dX10_partNow_68 : decode cX10_partNow 68 = .ok (.if_icmp .ne 7, 3) := by decide +kernel
theorem dX10_partNow_71 : decode cX10_partNow 71 = .ok (.iconst 1, 1) := by decide +kernel
theorem dX10_partNow_72 : decode cX10_partNow 72 = .ok (.goto 4, 3) := by decide +kernel
theorem dX10_partNow_75 : decode cX10_partNow 75 = .ok (.iconst 0, 1) := by decide +kernel
theorem dX10_partNow_76 : decode cX10_partNow 76 = .ok (.invokevirtual 153, 3) := by decide +kernel
theorem dX10_partNow_79 : decode cX10_partNow 79 = .ok (.ireturn, 1) := by decide +kernel
theorem dX10_partNow_80 : decode cX10_partNow 80 = .ok (.aload_n 0, 1) := by decide +kernel
theorem dX10_partNow_81 : decode cX10_partNow 81 = .ok (.getfield 7, 3) := by decide +kernel
theorem dX10_partNow_84 : decode cX10_partNow 84 = .ok (.iconst 3, 1) := by decide +kernel
theorem dX10_partNow_85 : decode cX10_partNow 85 = .ok (.iaload, 1) := by decide +kernel
theorem dX10_partNow_86 : decode cX10_partNow 86 = .ok (.ifCond .ne 7, 3) := by decide +kernel
theorem dX10_partNow_89 : decode cX10_partNow 89 = .ok (.iconst (-1), 1) := by decide +kernel
theorem dX10_partNow_90 : decode cX10_partNow 90 = .ok (.goto 11, 3) := by decide +kernel
theorem dX10_partNow_93 : decode cX10_partNow 93 = .ok (.aload_n 0, 1) := by decide +kernel
theorem dX10_partNow_94 : decode cX10_partNow 94 = .ok (.getfield 7, 3) := by decide +kernel
theorem dX10_partNow_97 : decode cX10_partNow 97 = .ok (.iconst 5, 1) := by decide +kernel
theorem dX10_partNow_98 : decode cX10_partNow 98 = .ok (.iload_n 1, 1) := by decide +kernel
theorem dX10_partNow_99 : decode cX10_partNow 99 = .ok (.iadd, 1) := by decide +kernel
theorem dX10_partNow_100 : decode cX10_partNow 100 = .ok (.iaload, 1) := by decide +kernel
theorem dX10_partNow_101 : decode cX10_partNow 101 = .ok (.ireturn, 1) := by decide +kernel
theorem dX10_part_0 : decode cX10_part 0 = .ok (.aload_n 0, 1) := by decide +kernel
theorem dX10_part_1 : decode cX10_part 1 = .ok (.aload_n 0, 1) := by decide +kernel
theorem dX10_part_2 : decode cX10_part 2 = .ok (.iload_n 1, 1) := by decide +kernel
theorem dX10_part_3 : decode cX10_part 3 = .ok (.invokevirtual 113, 3) := by decide +kernel
theorem dX10_part_6 : decode cX10_part 6 = .ok (.ifCond .ne 7, 3) := by decide +kernel
theorem dX10_part_9 : decode cX10_part 9 = .ok (.iconst 1, 1) := by decide +kernel
theorem dX10_part_10 : decode cX10_part 10 = .ok (.goto 18, 3) := by decide +kernel
theorem dX10_part_13 : decode cX10_part 13 = .ok (.iload_n 2, 1) := by decide +kernel
theorem dX10_part_14 : decode cX10_part 14 = .ok (.iconst 0, 1) := by decide +kernel
theorem dX10_part_15 : decode cX10_part 15 = .ok (.bipush 6, 2) := by decide +kernel
theorem dX10_part_17 : decode cX10_part 17 = .ok (.invokestatic 46, 3) := by decide +kernel
theorem dX10_part_20 : decode cX10_part 20 = .ok (.ifCond .eq 7, 3) := by decide +kernel
theorem dX10_part_23 : decode cX10_part 23 = .ok (.iconst 0, 1) := by decide +kernel
theorem dX10_part_24 : decode cX10_part 24 = .ok (.goto 4, 3) := by decide +kernel
theorem dX10_part_27 : decode cX10_part 27 = .ok (.iconst 2, 1) := by decide +kernel
theorem dX10_part_28 : decode cX10_part 28 = .ok (.putfield 39, 3) := by decide +kernel
theorem dX10_part_31 : decode cX10_part 31 = .ok (.aload_n 0, 1) := by decide +kernel
theorem dX10_part_32 : decode cX10_part 32 = .ok (.getfield 39, 3) := by decide +kernel
theorem dX10_part_35 : decode cX10_part 35 = .ok (.ifCond .le 7, 3) := by decide +kernel
theorem dX10_part_38 : decode cX10_part 38 = .ok (.iconst 0, 1) := by decide +kernel
theorem dX10_part_39 : decode cX10_part 39 = .ok (.goto 9, 3) := by decide +kernel
theorem dX10_part_42 : decode cX10_part 42 = .ok (.aload_n 0, 1) := by decide +kernel
theorem dX10_part_43 : decode cX10_part 43 = .ok (.iload_n 1, 1) := by decide +kernel
theorem dX10_part_44 : decode cX10_part 44 = .ok (.iload_n 2, 1) := by decide +kernel
theorem dX10_part_45 : decode cX10_part 45 = .ok (.invokevirtual 157, 3) := by decide +kernel
theorem dX10_part_48 : decode cX10_part 48 = .ok (.ireturn, 1) := by decide +kernel
theorem dX10_weight_0 : decode cX10_weight 0 = .ok (.aload_n 0, 1) := by decide +kernel
theorem dX10_weight_1 : decode cX10_weight 1 = .ok (.aload_n 0, 1) := by decide +kernel
theorem dX10_weight_2 : decode cX10_weight 2 = .ok (.iload_n 1, 1) := by decide +kernel
theorem dX10_weight_3 : decode cX10_weight 3 = .ok (.invokevirtual 113, 3) := by decide +kernel
theorem dX10_weight_6 : decode cX10_weight 6 = .ok (.ifCond .eq 14, 3) := by decide +kernel
theorem dX10_weight_9 : decode cX10_weight 9 = .ok (.iload_n 2, 1) := by decide +kernel
theorem dX10_weight_10 : decode cX10_weight 10 = .ok (.invokestatic 100, 3) := by decide +kernel
theorem dX10_weight_13 : decode cX10_weight 13 = .ok (.ifCond .eq 7, 3) := by decide +kernel
theorem dX10_weight_16 : decode cX10_weight 16 = .ok (.iconst 0, 1) := by decide +kernel
theorem dX10_weight_17 : decode cX10_weight 17 = .ok (.goto 4, 3) := by decide +kernel
theorem dX10_weight_20 : decode cX10_weight 20 = .ok (.iconst 1, 1) := by decide +kernel
theorem dX10_weight_21 : decode cX10_weight 21 = .ok (.putfield 39, 3) := by decide +kernel
theorem dX10_weight_24 : decode cX10_weight 24 = .ok (.aload_n 0, 1) := by decide +kernel
theorem dX10_weight_25 : decode cX10_weight 25 = .ok (.getfield 39, 3) := by decide +kernel
theorem dX10_weight_28 : decode cX10_weight 28 = .ok (.ifCond .le 7, 3) := by decide +kernel
theorem dX10_weight_31 : decode cX10_weight 31 = .ok (.iconst 0, 1) := by decide +kernel
theorem dX10_weight_32 : decode cX10_weight 32 = .ok (.goto 22, 3) := by decide +kernel
theorem dX10_weight_35 : decode cX10_weight 35 = .ok (.iload_n 3, 1) := by decide +kernel
theorem dX10_weight_36 : decode cX10_weight 36 = .ok (.ifCond .eq 12, 3) := by decide +kernel
theorem dX10_weight_39 : decode cX10_weight 39 = .ok (.aload_n 0, 1) := by decide +kernel
theorem dX10_weight_40 : decode cX10_weight 40 = .ok (.iload_n 1, 1) := by decide +kernel
theorem dX10_weight_41 : decode cX10_weight 41 = .ok (.iload_n 2, 1) := by decide +kernel
theorem dX10_weight_42 : decode cX10_weight 42 = .ok (.invokevirtual 54, 3) := by decide +kernel
theorem dX10_weight_45 : decode cX10_weight 45 = .ok (.goto 9, 3) := by decide +kernel
theorem dX10_weight_48 : decode cX10_weight 48 = .ok (.aload_n 0, 1) := by decide +kernel
theorem dX10_weight_49 : decode cX10_weight 49 = .ok (.iload_n 1, 1) := by decide +kernel
theorem dX10_weight_50 : decode cX10_weight 50 = .ok (.iload_n 2, 1) := by decide +kernel
theorem dX10_weight_51 : decode cX10_weight 51 = .ok (.invokevirtual 50, 3) := by decide +kernel
theorem dX10_weight_54 : decode cX10_weight 54 = .ok (.ireturn, 1) := by decide +kernel
theorem dX10_waysNow_0 : decode cX10_waysNow 0 = .ok (.aload_n 0, 1) := by decide +kernel
theorem dX10_waysNow_1 : decode cX10_waysNow 1 = .ok (.iconst (-1), 1) := by decide +kernel
theorem dX10_waysNow_2 : decode cX10_waysNow 2 = .ok (.invokevirtual 82, 3) := by decide +kernel
theorem dX10_waysNow_5 : decode cX10_waysNow 5 = .ok (.iload_n 2, 1) := by decide +kernel
theorem dX10_waysNow_6 : decode cX10_waysNow 6 = .ok (.ifCond .eq 11, 3) := by decide +kernel
theorem dX10_waysNow_9 : decode cX10_waysNow 9 = .ok (.aload_n 0, 1) := by decide +kernel
theorem dX10_waysNow_10 : decode cX10_waysNow 10 = .ok (.iload_n 1, 1) := by decide +kernel
theorem dX10_waysNow_11 : decode cX10_waysNow 11 = .ok (.invokevirtual 85, 3) := by decide +kernel
theorem dX10_waysNow_14 : decode cX10_waysNow 14 = .ok (.goto 19, 3) := by decide +kernel
theorem dX10_waysNow_17 : decode cX10_waysNow 17 = .ok (.iload_n 1, 1) := by decide +kernel
theorem dX10_waysNow_18 : decode cX10_waysNow 18 = .ok (.bipush 31, 2) := by decide +kernel
theorem dX10_waysNow_20 : decode cX10_waysNow 20 = .ok (.if_icmp .ge 12, 3) := by decide +kernel
theorem dX10_waysNow_23 : decode cX10_waysNow 23 = .ok (.aload_n 0, 1) := by decide +kernel
theorem dX10_waysNow_24 : decode cX10_waysNow 24 = .ok (.getfield 26, 3) := by decide +kernel
theorem dX10_waysNow_27 : decode cX10_waysNow 27 = .ok (.iload_n 1, 1) := by decide +kernel
theorem dX10_waysNow_28 : decode cX10_waysNow 28 = .ok (.laload, 1) := by decide +kernel
theorem dX10_waysNow_29 : decode cX10_waysNow 29 = .ok (.goto 4, 3) := by decide +kernel
theorem dX10_waysNow_32 : decode cX10_waysNow 32 = .ok (.lconst 0, 1) := by decide +kernel
theorem dX10_waysNow_33 : decode cX10_waysNow 33 = .ok (.lreturn, 1) := by decide +kernel
theorem dX10_ways_0 : decode cX10_ways 0 = .ok (.aload_n 0, 1) := by decide +kernel
theorem dX10_ways_1 : decode cX10_ways 1 = .ok (.iload_n 1, 1) := by decide +kernel
theorem dX10_ways_2 : decode cX10_ways 2 = .ok (.invokestatic 120, 3) := by decide +kernel
theorem dX10_ways_5 : decode cX10_ways 5 = .ok (.ifCond .eq 7, 3) := by decide +kernel
theorem dX10_ways_8 : decode cX10_ways 8 = .ok (.iconst 0, 1) := by decide +kernel
theorem dX10_ways_9 : decode cX10_ways 9 = .ok (.goto 4, 3) := by decide +kernel
theorem dX10_ways_12 : decode cX10_ways 12 = .ok (.iconst 1, 1) := by decide +kernel
theorem dX10_ways_13 : decode cX10_ways 13 = .ok (.putfield 39, 3) := by decide +kernel
theorem dX10_ways_16 : decode cX10_ways 16 = .ok (.aload_n 0, 1) := by decide +kernel
theorem dX10_ways_17 : decode cX10_ways 17 = .ok (.getfield 39, 3) := by decide +kernel
theorem dX10_ways_20 : decode cX10_ways 20 = .ok (.ifCond .le 7, 3) := by decide +kernel
theorem dX10_ways_23 : decode cX10_ways 23 = .ok (.lconst 0, 1) := by decide +kernel
theorem dX10_ways_24 : decode cX10_ways 24 = .ok (.goto 9, 3) := by decide +kernel
theorem dX10_ways_27 : decode cX10_ways 27 = .ok (.aload_n 0, 1) := by decide +kernel
theorem dX10_ways_28 : decode cX10_ways 28 = .ok (.iload_n 1, 1) := by decide +kernel
theorem dX10_ways_29 : decode cX10_ways 29 = .ok (.iload_n 2, 1) := by decide +kernel
theorem dX10_ways_30 : decode cX10_ways 30 = .ok (.invokevirtual 160, 3) := by decide +kernel
theorem dX10_ways_33 : decode cX10_ways 33 = .ok (.lreturn, 1) := by decide +kernel
theorem dX10_likeliest_0 : decode cX10_likeliest 0 = .ok (.aload_n 0, 1) := by decide +kernel
theorem dX10_likeliest_1 : decode cX10_likeliest 1 = .ok (.aload_n 0, 1) := by decide +kernel
theorem dX10_likeliest_2 : decode cX10_likeliest 2 = .ok (.iload_n 1, 1) := by decide +kernel
theorem dX10_likeliest_3 : decode cX10_likeliest 3 = .ok (.invokevirtual 113, 3) := by decide +kernel
theorem dX10_likeliest_6 : decode cX10_likeliest 6 = .ok (.ifCond .eq 7, 3) := by decide +kernel
theorem dX10_likeliest_9 : decode cX10_likeliest 9 = .ok (.iconst 0, 1) := by decide +kernel
theorem dX10_likeliest_10 : decode cX10_likeliest 10 = .ok (.goto 4, 3) := by decide +kernel
theorem dX10_likeliest_13 : decode cX10_likeliest 13 = .ok (.iconst 1, 1) := by decide +kernel
theorem dX10_likeliest_14 : decode cX10_likeliest 14 = .ok (.putfield 39, 3) := by decide +kernel
theorem dX10_likeliest_17 : decode cX10_likeliest 17 = .ok (.aload_n 0, 1) := by decide +kernel
theorem dX10_likeliest_18 : decode cX10_likeliest 18 = .ok (.getfield 39, 3) := by decide +kernel
theorem dX10_likeliest_21 : decode cX10_likeliest 21 = .ok (.ifCond .le 7, 3) := by decide +kernel
theorem dX10_likeliest_24 : decode cX10_likeliest 24 = .ok (.iconst 0, 1) := by decide +kernel
theorem dX10_likeliest_25 : decode cX10_likeliest 25 = .ok (.goto 8, 3) := by decide +kernel
theorem dX10_likeliest_28 : decode cX10_likeliest 28 = .ok (.aload_n 0, 1) := by decide +kernel
theorem dX10_likeliest_29 : decode cX10_likeliest 29 = .ok (.iload_n 1, 1) := by decide +kernel
theorem dX10_likeliest_30 : decode cX10_likeliest 30 = .ok (.invokevirtual 164, 3) := by decide +kernel
theorem dX10_likeliest_33 : decode cX10_likeliest 33 = .ok (.ireturn, 1) := by decide +kernel
theorem dX10_endSum_0 : decode cX10_endSum 0 = .ok (.iconst 0, 1) := by decide +kernel
theorem dX10_endSum_1 : decode cX10_endSum 1 = .ok (.istore_n 2, 1) := by decide +kernel
theorem dX10_endSum_2 : decode cX10_endSum 2 = .ok (.iconst 0, 1) := by decide +kernel
theorem dX10_endSum_3 : decode cX10_endSum 3 = .ok (.istore_n 3, 1) := by decide +kernel
theorem dX10_endSum_4 : decode cX10_endSum 4 = .ok (.iload_n 3, 1) := by decide +kernel
theorem dX10_endSum_5 : decode cX10_endSum 5 = .ok (.aload_n 0, 1) := by decide +kernel
theorem dX10_endSum_6 : decode cX10_endSum 6 = .ok (.getfield 7, 3) := by decide +kernel
theorem dX10_endSum_9 : decode cX10_endSum 9 = .ok (.iconst 0, 1) := by decide +kernel
theorem dX10_endSum_10 : decode cX10_endSum 10 = .ok (.iaload, 1) := by decide +kernel
theorem dX10_endSum_11 : decode cX10_endSum 11 = .ok (.if_icmp .ge 33, 3) := by decide +kernel
theorem dX10_endSum_14 : decode cX10_endSum 14 = .ok (.iload_n 1, 1) := by decide +kernel
theorem dX10_endSum_15 : decode cX10_endSum 15 = .ok (.ifCond .eq 11, 3) := by decide +kernel
theorem dX10_endSum_18 : decode cX10_endSum 18 = .ok (.aload_n 0, 1) := by decide +kernel
theorem dX10_endSum_19 : decode cX10_endSum 19 = .ok (.iload_n 3, 1) := by decide +kernel
theorem dX10_endSum_20 : decode cX10_endSum 20 = .ok (.invokevirtual 147, 3) := by decide +kernel
theorem dX10_endSum_23 : decode cX10_endSum 23 = .ok (.goto 8, 3) := by decide +kernel
theorem dX10_endSum_26 : decode cX10_endSum 26 = .ok (.aload_n 0, 1) := by decide +kernel
theorem dX10_endSum_27 : decode cX10_endSum 27 = .ok (.iload_n 3, 1) := by decide +kernel
theorem dX10_endSum_28 : decode cX10_endSum 28 = .ok (.invokevirtual 150, 3) := by decide +kernel
theorem dX10_endSum_31 : decode cX10_endSum 31 = .ok (.istore 4, 2) := by decide +kernel
theorem dX10_endSum_33 : decode cX10_endSum 33 = .ok (.iload_n 2, 1) := by decide +kernel
theorem dX10_endSum_34 : decode cX10_endSum 34 = .ok (.iload 4, 2) := by decide +kernel
theorem dX10_endSum_36 : decode cX10_endSum 36 = .ok (.iadd, 1) := by decide +kernel
theorem dX10_endSum_37 : decode cX10_endSum 37 = .ok (.istore_n 2, 1) := by decide +kernel
theorem dX10_endSum_38 : decode cX10_endSum 38 = .ok (.iinc 3 1, 3) := by decide +kernel
theorem dX10_endSum_41 : decode cX10_endSum 41 = .ok (.goto (-37), 3) := by decide +kernel
theorem dX10_endSum_44 : decode cX10_endSum 44 = .ok (.iload_n 2, 1) := by decide +kernel
theorem dX10_endSum_45 : decode cX10_endSum 45 = .ok (.ireturn, 1) := by decide +kernel
theorem dX10_counted_0 : decode cX10_counted 0 = .ok (.iload_n 1, 1) := by decide +kernel
theorem dX10_counted_1 : decode cX10_counted 1 = .ok (.tableswitch 56 5 8 #[31, 31, 46, 51], 31) := by decide +kernel
theorem dX10_counted_32 : decode cX10_counted 32 = .ok (.aload_n 0, 1) := by decide +kernel
theorem dX10_counted_33 : decode cX10_counted 33 = .ok (.iload_n 1, 1) := by decide +kernel
theorem dX10_counted_34 : decode cX10_counted 34 = .ok (.iconst 5, 1) := by decide +kernel
theorem dX10_counted_35 : decode cX10_counted 35 = .ok (.if_icmp .ne 7, 3) := by decide +kernel
theorem dX10_counted_38 : decode cX10_counted 38 = .ok (.iconst 1, 1) := by decide +kernel
theorem dX10_counted_39 : decode cX10_counted 39 = .ok (.goto 4, 3) := by decide +kernel
theorem dX10_counted_42 : decode cX10_counted 42 = .ok (.iconst 0, 1) := by decide +kernel
theorem dX10_counted_43 : decode cX10_counted 43 = .ok (.invokevirtual 167, 3) := by decide +kernel
theorem dX10_counted_46 : decode cX10_counted 46 = .ok (.ireturn, 1) := by decide +kernel
theorem dX10_counted_47 : decode cX10_counted 47 = .ok (.aload_n 0, 1) := by decide +kernel
theorem dX10_counted_48 : decode cX10_counted 48 = .ok (.invokevirtual 96, 3) := by decide +kernel
theorem dX10_counted_51 : decode cX10_counted 51 = .ok (.ireturn, 1) := by decide +kernel
theorem dX10_counted_52 : decode cX10_counted 52 = .ok (.aload_n 0, 1) := by decide +kernel
theorem dX10_counted_53 : decode cX10_counted 53 = .ok (.getfield 43, 3) := by decide +kernel
theorem dX10_counted_56 : decode cX10_counted 56 = .ok (.ireturn, 1) := by decide +kernel
theorem dX10_counted_57 : decode cX10_counted 57 = .ok (.aload_n 0, 1) := by decide +kernel
theorem dX10_counted_58 : decode cX10_counted 58 = .ok (.getfield 7, 3) := by decide +kernel
theorem dX10_counted_61 : decode cX10_counted 61 = .ok (.iload_n 1, 1) := by decide +kernel
theorem dX10_counted_62 : decode cX10_counted 62 = .ok (.iaload, 1) := by decide +kernel
theorem dX10_counted_63 : decode cX10_counted 63 = .ok (.ireturn, 1) := by decide +kernel
theorem dX10_count_0 : decode cX10_count 0 = .ok (.aload_n 0, 1) := by decide +kernel
theorem dX10_count_1 : decode cX10_count 1 = .ok (.iload_n 1, 1) := by decide +kernel
theorem dX10_count_2 : decode cX10_count 2 = .ok (.iconst 0, 1) := by decide +kernel
theorem dX10_count_3 : decode cX10_count 3 = .ok (.bipush 8, 2) := by decide +kernel
theorem dX10_count_5 : decode cX10_count 5 = .ok (.invokestatic 46, 3) := by decide +kernel
theorem dX10_count_8 : decode cX10_count 8 = .ok (.ifCond .eq 7, 3) := by decide +kernel
theorem dX10_count_11 : decode cX10_count 11 = .ok (.iconst 0, 1) := by decide +kernel
theorem dX10_count_12 : decode cX10_count 12 = .ok (.goto 4, 3) := by decide +kernel
theorem dX10_count_15 : decode cX10_count 15 = .ok (.iconst 1, 1) := by decide +kernel
theorem dX10_count_16 : decode cX10_count 16 = .ok (.putfield 39, 3) := by decide +kernel
theorem dX10_count_19 : decode cX10_count 19 = .ok (.aload_n 0, 1) := by decide +kernel
theorem dX10_count_20 : decode cX10_count 20 = .ok (.getfield 39, 3) := by decide +kernel
theorem dX10_count_23 : decode cX10_count 23 = .ok (.ifCond .le 7, 3) := by decide +kernel
theorem dX10_count_26 : decode cX10_count 26 = .ok (.iconst 0, 1) := by decide +kernel
theorem dX10_count_27 : decode cX10_count 27 = .ok (.goto 8, 3) := by decide +kernel
theorem dX10_count_30 : decode cX10_count 30 = .ok (.aload_n 0, 1) := by decide +kernel
theorem dX10_count_31 : decode cX10_count 31 = .ok (.iload_n 1, 1) := by decide +kernel
theorem dX10_count_32 : decode cX10_count 32 = .ok (.invokevirtual 171, 3) := by decide +kernel
theorem dX10_count_35 : decode cX10_count 35 = .ok (.ireturn, 1) := by decide +kernel
theorem dX10_bySamples_0 : decode cX10_bySamples 0 = .ok (.aload_n 0, 1) := by decide +kernel
theorem dX10_bySamples_1 : decode cX10_bySamples 1 = .ok (.getfield 7, 3) := by decide +kernel
theorem dX10_bySamples_4 : decode cX10_bySamples 4 = .ok (.iconst 3, 1) := by decide +kernel
theorem dX10_bySamples_5 : decode cX10_bySamples 5 = .ok (.iaload, 1) := by decide +kernel
theorem dX10_bySamples_6 : decode cX10_bySamples 6 = .ok (.ifCond .ne 7, 3) := by decide +kernel
theorem dX10_bySamples_9 : decode cX10_bySamples 9 = .ok (.dconst 0, 1) := by decide +kernel
theorem dX10_bySamples_10 : decode cX10_bySamples 10 = .ok (.goto 12, 3) := by decide +kernel
theorem dX10_bySamples_13 : decode cX10_bySamples 13 = .ok (.dload_n 1, 1) := by decide +kernel
theorem dX10_bySamples_14 : decode cX10_bySamples 14 = .ok (.aload_n 0, 1) := by decide +kernel
theorem dX10_bySamples_15 : decode cX10_bySamples 15 = .ok (.getfield 7, 3) := by decide +kernel
theorem dX10_bySamples_18 : decode cX10_bySamples 18 = .ok (.iconst 3, 1) := by decide +kernel
theorem dX10_bySamples_19 : decode cX10_bySamples 19 = .ok (.iaload, 1) := by decide +kernel
theorem dX10_bySamples_20 : decode cX10_bySamples 20 = .ok (.i2d, 1) := by decide +kernel
theorem dX10_bySamples_21 : decode cX10_bySamples 21 = .ok (.ddiv, 1) := by decide +kernel
theorem dX10_bySamples_22 : decode cX10_bySamples 22 = .ok (.dreturn, 1) := by decide +kernel
theorem dX10_effective_0 : decode cX10_effective 0 = .ok (.aload_n 0, 1) := by decide +kernel
theorem dX10_effective_1 : decode cX10_effective 1 = .ok (.getfield 7, 3) := by decide +kernel
theorem dX10_effective_4 : decode cX10_effective 4 = .ok (.iconst 3, 1) := by decide +kernel
theorem dX10_effective_5 : decode cX10_effective 5 = .ok (.iaload, 1) := by decide +kernel
theorem dX10_effective_6 : decode cX10_effective 6 = .ok (.ifCond .ne 7, 3) := by decide +kernel
theorem dX10_effective_9 : decode cX10_effective 9 = .ok (.dconst 0, 1) := by decide +kernel
theorem dX10_effective_10 : decode cX10_effective 10 = .ok (.goto 23, 3) := by decide +kernel
theorem dX10_effective_13 : decode cX10_effective 13 = .ok (.aload_n 0, 1) := by decide +kernel
theorem dX10_effective_14 : decode cX10_effective 14 = .ok (.getfield 13, 3) := by decide +kernel
theorem dX10_effective_17 : decode cX10_effective 17 = .ok (.iconst 1, 1) := by decide +kernel
theorem dX10_effective_18 : decode cX10_effective 18 = .ok (.daload, 1) := by decide +kernel
theorem dX10_effective_19 : decode cX10_effective 19 = .ok (.aload_n 0, 1) := by decide +kernel
theorem dX10_effective_20 : decode cX10_effective 20 = .ok (.getfield 13, 3) := by decide +kernel
theorem dX10_effective_23 : decode cX10_effective 23 = .ok (.iconst 1, 1) := by decide +kernel
theorem dX10_effective_24 : decode cX10_effective 24 = .ok (.daload, 1) := by decide +kernel
theorem dX10_effective_25 : decode cX10_effective 25 = .ok (.dmul, 1) := by decide +kernel
theorem dX10_effective_26 : decode cX10_effective 26 = .ok (.aload_n 0, 1) := by decide +kernel
theorem dX10_effective_27 : decode cX10_effective 27 = .ok (.getfield 13, 3) := by decide +kernel
theorem dX10_effective_30 : decode cX10_effective 30 = .ok (.iconst 2, 1) := by decide +kernel
theorem dX10_effective_31 : decode cX10_effective 31 = .ok (.daload, 1) := by decide +kernel
theorem dX10_effective_32 : decode cX10_effective 32 = .ok (.ddiv, 1) := by decide +kernel
theorem dX10_effective_33 : decode cX10_effective 33 = .ok (.dreturn, 1) := by decide +kernel
theorem dX10_measured_0 : decode cX10_measured 0 = .ok (.iload_n 1, 1) := by decide +kernel
theorem dX10_measured_1 : decode cX10_measured 1 = .ok (.tableswitch 97 0 5 #[39, 51, 62, 74, 85, 90], 39) := by decide +kernel
theorem dX10_measured_40 : decode cX10_measured 40 = .ok (.aload_n 0, 1) := by decide +kernel
theorem dX10_measured_41 : decode cX10_measured 41 = .ok (.aload_n 0, 1) := by decide +kernel
theorem dX10_measured_42 : decode cX10_measured 42 = .ok (.getfield 7, 3) := by decide +kernel
theorem dX10_measured_45 : decode cX10_measured 45 = .ok (.iconst 1, 1) := by decide +kernel
theorem dX10_measured_46 : decode cX10_measured 46 = .ok (.iaload, 1) := by decide +kernel
theorem dX10_measured_47 : decode cX10_measured 47 = .ok (.iconst (-1), 1) := by decide +kernel
theorem dX10_measured_48 : decode cX10_measured 48 = .ok (.invokevirtual 174, 3) := by decide +kernel
theorem dX10_measured_51 : decode cX10_measured 51 = .ok (.dreturn, 1) := by decide +kernel
theorem dX10_measured_52 : decode cX10_measured 52 = .ok (.aload_n 0, 1) := by decide +kernel
theorem dX10_measured_53 : decode cX10_measured 53 = .ok (.aload_n 0, 1) := by decide +kernel
theorem dX10_measured_54 : decode cX10_measured 54 = .ok (.getfield 13, 3) := by decide +kernel
theorem dX10_measured_57 : decode cX10_measured 57 = .ok (.iconst 0, 1) := by decide +kernel
theorem dX10_measured_58 : decode cX10_measured 58 = .ok (.daload, 1) := by decide +kernel
theorem dX10_measured_59 : decode cX10_measured 59 = .ok (.invokevirtual 178, 3) := by decide +kernel
theorem dX10_measured_62 : decode cX10_measured 62 = .ok (.dreturn, 1) := by decide +kernel
theorem dX10_measured_63 : decode cX10_measured 63 = .ok (.aload_n 0, 1) := by decide +kernel
theorem dX10_measured_64 : decode cX10_measured 64 = .ok (.aload_n 0, 1) := by decide +kernel
theorem dX10_measured_65 : decode cX10_measured 65 = .ok (.getfield 7, 3) := by decide +kernel
theorem dX10_measured_68 : decode cX10_measured 68 = .ok (.iconst 4, 1) := by decide +kernel
theorem dX10_measured_69 : decode cX10_measured 69 = .ok (.iaload, 1) := by decide +kernel
theorem dX10_measured_70 : decode cX10_measured 70 = .ok (.i2d, 1) := by decide +kernel
theorem dX10_measured_71 : decode cX10_measured 71 = .ok (.invokevirtual 178, 3) := by decide +kernel
theorem dX10_measured_74 : decode cX10_measured 74 = .ok (.dreturn, 1) := by decide +kernel
theorem dX10_measured_75 : decode cX10_measured 75 = .ok (.aload_n 0, 1) := by decide +kernel
theorem dX10_measured_76 : decode cX10_measured 76 = .ok (.aload_n 0, 1) := by decide +kernel
theorem dX10_measured_77 : decode cX10_measured 77 = .ok (.getfield 13, 3) := by decide +kernel
theorem dX10_measured_80 : decode cX10_measured 80 = .ok (.iconst 1, 1) := by decide +kernel
theorem dX10_measured_81 : decode cX10_measured 81 = .ok (.daload, 1) := by decide +kernel
theorem dX10_measured_82 : decode cX10_measured 82 = .ok (.invokevirtual 178, 3) := by decide +kernel
theorem dX10_measured_85 : decode cX10_measured 85 = .ok (.dreturn, 1) := by decide +kernel
theorem dX10_measured_86 : decode cX10_measured 86 = .ok (.aload_n 0, 1) := by decide +kernel
theorem dX10_measured_87 : decode cX10_measured 87 = .ok (.invokevirtual 182, 3) := by decide +kernel
theorem dX10_measured_90 : decode cX10_measured 90 = .ok (.dreturn, 1) := by decide +kernel
theorem dX10_measured_91 : decode cX10_measured 91 = .ok (.aload_n 0, 1) := by decide +kernel
theorem dX10_measured_92 : decode cX10_measured 92 = .ok (.getfield 13, 3) := by decide +kernel
theorem dX10_measured_95 : decode cX10_measured 95 = .ok (.iconst 3, 1) := by decide +kernel
theorem dX10_measured_96 : decode cX10_measured 96 = .ok (.daload, 1) := by decide +kernel
theorem dX10_measured_97 : decode cX10_measured 97 = .ok (.dreturn, 1) := by decide +kernel
theorem dX10_measured_98 : decode cX10_measured 98 = .ok (.aload_n 0, 1) := by decide +kernel
theorem dX10_measured_99 : decode cX10_measured 99 = .ok (.aload_n 0, 1) := by decide +kernel
theorem dX10_measured_100 : decode cX10_measured 100 = .ok (.getfield 13, 3) := by decide +kernel
theorem dX10_measured_103 : decode cX10_measured 103 = .ok (.iconst 0, 1) := by decide +kernel
theorem dX10_measured_104 : decode cX10_measured 104 = .ok (.daload, 1) := by decide +kernel
theorem dX10_measured_105 : decode cX10_measured 105 = .ok (.invokevirtual 178, 3) := by decide +kernel
theorem dX10_measured_108 : decode cX10_measured 108 = .ok (.aload_n 0, 1) := by decide +kernel
theorem dX10_measured_109 : decode cX10_measured 109 = .ok (.aload_n 0, 1) := by decide +kernel
theorem dX10_measured_110 : decode cX10_measured 110 = .ok (.getfield 7, 3) := by decide +kernel
theorem dX10_measured_113 : decode cX10_measured 113 = .ok (.iconst 1, 1) := by decide +kernel
theorem dX10_measured_114 : decode cX10_measured 114 = .ok (.iaload, 1) := by decide +kernel
theorem dX10_measured_115 : decode cX10_measured 115 = .ok (.iconst (-1), 1) := by decide +kernel
theorem dX10_measured_116 : decode cX10_measured 116 = .ok (.invokevirtual 174, 3) := by decide +kernel
theorem dX10_measured_119 : decode cX10_measured 119 = .ok (.dsub, 1) := by decide +kernel
theorem dX10_measured_120 : decode cX10_measured 120 = .ok (.dreturn, 1) := by decide +kernel
theorem dX10_measure_0 : decode cX10_measure 0 = .ok (.aload_n 0, 1) := by decide +kernel
theorem dX10_measure_1 : decode cX10_measure 1 = .ok (.iload_n 1, 1) := by decide +kernel
theorem dX10_measure_2 : decode cX10_measure 2 = .ok (.iconst 0, 1) := by decide +kernel
theorem dX10_measure_3 : decode cX10_measure 3 = .ok (.bipush 6, 2) := by decide +kernel
theorem dX10_measure_5 : decode cX10_measure 5 = .ok (.invokestatic 46, 3) := by decide +kernel
theorem dX10_measure_8 : decode cX10_measure 8 = .ok (.ifCond .eq 7, 3) := by decide +kernel
theorem dX10_measure_11 : decode cX10_measure 11 = .ok (.iconst 0, 1) := by decide +kernel
theorem dX10_measure_12 : decode cX10_measure 12 = .ok (.goto 4, 3) := by decide +kernel
theorem dX10_measure_15 : decode cX10_measure 15 = .ok (.iconst 1, 1) := by decide +kernel
theorem dX10_measure_16 : decode cX10_measure 16 = .ok (.putfield 39, 3) := by decide +kernel
theorem dX10_measure_19 : decode cX10_measure 19 = .ok (.aload_n 0, 1) := by decide +kernel
theorem dX10_measure_20 : decode cX10_measure 20 = .ok (.getfield 39, 3) := by decide +kernel
theorem dX10_measure_23 : decode cX10_measure 23 = .ok (.ifCond .le 7, 3) := by decide +kernel
theorem dX10_measure_26 : decode cX10_measure 26 = .ok (.dconst 0, 1) := by decide +kernel
theorem dX10_measure_27 : decode cX10_measure 27 = .ok (.goto 8, 3) := by decide +kernel
theorem dX10_measure_30 : decode cX10_measure 30 = .ok (.aload_n 0, 1) := by decide +kernel
theorem dX10_measure_31 : decode cX10_measure 31 = .ok (.iload_n 1, 1) := by decide +kernel
theorem dX10_measure_32 : decode cX10_measure 32 = .ok (.invokevirtual 186, 3) := by decide +kernel
theorem dX10_measure_35 : decode cX10_measure 35 = .ok (.dreturn, 1) := by decide +kernel
theorem dX10_ifLimit_0 : decode cX10_ifLimit 0 = .ok (.aload_n 0, 1) := by decide +kernel
theorem dX10_ifLimit_1 : decode cX10_ifLimit 1 = .ok (.iload_n 1, 1) := by decide +kernel
theorem dX10_ifLimit_2 : decode cX10_ifLimit 2 = .ok (.invokestatic 120, 3) := by decide +kernel
theorem dX10_ifLimit_5 : decode cX10_ifLimit 5 = .ok (.ifCond .eq 7, 3) := by decide +kernel
theorem dX10_ifLimit_8 : decode cX10_ifLimit 8 = .ok (.iconst 0, 1) := by decide +kernel
theorem dX10_ifLimit_9 : decode cX10_ifLimit 9 = .ok (.goto 4, 3) := by decide +kernel
theorem dX10_ifLimit_12 : decode cX10_ifLimit 12 = .ok (.iconst 1, 1) := by decide +kernel
theorem dX10_ifLimit_13 : decode cX10_ifLimit 13 = .ok (.putfield 39, 3) := by decide +kernel
theorem dX10_ifLimit_16 : decode cX10_ifLimit 16 = .ok (.aload_n 0, 1) := by decide +kernel
theorem dX10_ifLimit_17 : decode cX10_ifLimit 17 = .ok (.getfield 39, 3) := by decide +kernel
theorem dX10_ifLimit_20 : decode cX10_ifLimit 20 = .ok (.ifCond .le 7, 3) := by decide +kernel
theorem dX10_ifLimit_23 : decode cX10_ifLimit 23 = .ok (.dconst 0, 1) := by decide +kernel
theorem dX10_ifLimit_24 : decode cX10_ifLimit 24 = .ok (.goto 9, 3) := by decide +kernel
theorem dX10_ifLimit_27 : decode cX10_ifLimit 27 = .ok (.aload_n 0, 1) := by decide +kernel
theorem dX10_ifLimit_28 : decode cX10_ifLimit 28 = .ok (.iload_n 1, 1) := by decide +kernel
theorem dX10_ifLimit_29 : decode cX10_ifLimit 29 = .ok (.iconst (-1), 1) := by decide +kernel
theorem dX10_ifLimit_30 : decode cX10_ifLimit 30 = .ok (.invokevirtual 174, 3) := by decide +kernel
theorem dX10_ifLimit_33 : decode cX10_ifLimit 33 = .ok (.dreturn, 1) := by decide +kernel
theorem dX10_limitNow_0 : decode cX10_limitNow 0 = .ok (.aload_n 0, 1) := by decide +kernel
theorem dX10_limitNow_1 : decode cX10_limitNow 1 = .ok (.iconst (-1), 1) := by decide +kernel
theorem dX10_limitNow_2 : decode cX10_limitNow 2 = .ok (.invokevirtual 82, 3) := by decide +kernel
theorem dX10_limitNow_5 : decode cX10_limitNow 5 = .ok (.iconst 0, 1) := by decide +kernel
theorem dX10_limitNow_6 : decode cX10_limitNow 6 = .ok (.istore_n 2, 1) := by decide +kernel
theorem dX10_limitNow_7 : decode cX10_limitNow 7 = .ok (.aload_n 0, 1) := by decide +kernel
theorem dX10_limitNow_8 : decode cX10_limitNow 8 = .ok (.iload_n 2, 1) := by decide +kernel
theorem dX10_limitNow_9 : decode cX10_limitNow 9 = .ok (.invokevirtual 85, 3) := by decide +kernel
theorem dX10_limitNow_12 : decode cX10_limitNow 12 = .ok (.ldc2_w 190, 3) := by decide +kernel
theorem dX10_limitNow_15 : decode cX10_limitNow 15 = .ok (.lmul, 1) := by decide +kernel
theorem dX10_limitNow_16 : decode cX10_limitNow 16 = .ok (.aload_n 0, 1) := by decide +kernel
theorem dX10_limitNow_17 : decode cX10_limitNow 17 = .ok (.iconst 0, 1) := by decide +kernel
theorem dX10_limitNow_18 : decode cX10_limitNow 18 = .ok (.invokevirtual 85, 3) := by decide +kernel
theorem dX10_limitNow_21 : decode cX10_limitNow 21 = .ok (.iload_n 1, 1) := by decide +kernel
theorem dX10_limitNow_22 : decode cX10_limitNow 22 = .ok (.i2l, 1) := by decide +kernel
theorem dX10_limitNow_23 : decode cX10_limitNow 23 = .ok (.lmul, 1) := by decide +kernel
theorem dX10_limitNow_24 : decode cX10_limitNow 24 = .ok (.lcmp, 1) := by decide +kernel
theorem dX10_limitNow_25 : decode cX10_limitNow 25 = .ok (.ifCond .le 9, 3) := by decide +kernel
theorem dX10_limitNow_28 : decode cX10_limitNow 28 = .ok (.iinc 2 1, 3) := by decide +kernel
theorem dX10_limitNow_31 : decode cX10_limitNow 31 = .ok (.goto (-24), 3) := by decide +kernel
theorem dX10_limitNow_34 : decode cX10_limitNow 34 = .ok (.iload_n 2, 1) := by decide +kernel
theorem dX10_limitNow_35 : decode cX10_limitNow 35 = .ok (.ireturn, 1) := by decide +kernel
theorem dX10_limitFor_0 : decode cX10_limitFor 0 = .ok (.aload_n 0, 1) := by decide +kernel
theorem dX10_limitFor_1 : decode cX10_limitFor 1 = .ok (.iload_n 1, 1) := by decide +kernel
theorem dX10_limitFor_2 : decode cX10_limitFor 2 = .ok (.iconst 0, 1) := by decide +kernel
theorem dX10_limitFor_3 : decode cX10_limitFor 3 = .ok (.sipush 1000, 3) := by decide +kernel
theorem dX10_limitFor_6 : decode cX10_limitFor 6 = .ok (.invokestatic 46, 3) := by decide +kernel
theorem dX10_limitFor_9 : decode cX10_limitFor 9 = .ok (.ifCond .eq 7, 3) := by decide +kernel
theorem dX10_limitFor_12 : decode cX10_limitFor 12 = .ok (.iconst 0, 1) := by decide +kernel
theorem dX10_limitFor_13 : decode cX10_limitFor 13 = .ok (.goto 4, 3) := by decide +kernel
theorem dX10_limitFor_16 : decode cX10_limitFor 16 = .ok (.iconst 1, 1) := by decide +kernel
theorem dX10_limitFor_17 : decode cX10_limitFor 17 = .ok (.putfield 39, 3) := by decide +kernel
theorem dX10_limitFor_20 : decode cX10_limitFor 20 = .ok (.aload_n 0, 1) := by decide +kernel
theorem dX10_limitFor_21 : decode cX10_limitFor 21 = .ok (.getfield 39, 3) := by decide +kernel
theorem dX10_limitFor_24 : decode cX10_limitFor 24 = .ok (.ifCond .le 7, 3) := by decide +kernel
theorem dX10_limitFor_27 : decode cX10_limitFor 27 = .ok (.iconst 0, 1) := by decide +kernel
theorem dX10_limitFor_28 : decode cX10_limitFor 28 = .ok (.goto 8, 3) := by decide +kernel
theorem dX10_limitFor_31 : decode cX10_limitFor 31 = .ok (.aload_n 0, 1) := by decide +kernel
theorem dX10_limitFor_32 : decode cX10_limitFor 32 = .ok (.iload_n 1, 1) := by decide +kernel
theorem dX10_limitFor_33 : decode cX10_limitFor 33 = .ok (.invokevirtual 192, 3) := by decide +kernel
theorem dX10_limitFor_36 : decode cX10_limitFor 36 = .ok (.ireturn, 1) := by decide +kernel
theorem dX10_correctionOf_0 : decode cX10_correctionOf 0 = .ok (.iconst 0, 1) := by decide +kernel
theorem dX10_correctionOf_1 : decode cX10_correctionOf 1 = .ok (.istore_n 2, 1) := by decide +kernel
theorem dX10_correctionOf_2 : decode cX10_correctionOf 2 = .ok (.dconst 1, 1) := by decide +kernel
theorem dX10_correctionOf_3 : decode cX10_correctionOf 3 = .ok (.dstore_n 3, 1) := by decide +kernel
theorem dX10_correctionOf_4 : decode cX10_correctionOf 4 = .ok (.iconst 0, 1) := by decide +kernel
theorem dX10_correctionOf_5 : decode cX10_correctionOf 5 = .ok (.istore 5, 2) := by decide +kernel
theorem dX10_correctionOf_7 : decode cX10_correctionOf 7 = .ok (.iload 5, 2) := by decide +kernel
theorem dX10_correctionOf_9 : decode cX10_correctionOf 9 = .ok (.aload_n 0, 1) := by decide +kernel
theorem dX10_correctionOf_10 : decode cX10_correctionOf 10 = .ok (.getfield 7, 3) := by decide +kernel
theorem dX10_correctionOf_13 : decode cX10_correctionOf 13 = .ok (.iconst 0, 1) := by decide +kernel
theorem dX10_correctionOf_14 : decode cX10_correctionOf 14 = .ok (.iaload, 1) := by decide +kernel
theorem dX10_correctionOf_15 : decode cX10_correctionOf 15 = .ok (.if_icmp .ge 52, 3) := by decide +kernel
theorem dX10_correctionOf_18 : decode cX10_correctionOf 18 = .ok (.aload_n 0, 1) := by decide +kernel
theorem dX10_correctionOf_19 : decode cX10_correctionOf 19 = .ok (.iload 5, 2) := by decide +kernel
theorem dX10_correctionOf_21 : decode cX10_correctionOf 21 = .ok (.aload_n 0, 1) := by decide +kernel
theorem dX10_correctionOf_22 : decode cX10_correctionOf 22 = .ok (.getfield 36, 3) := by decide +kernel
theorem dX10_correctionOf_25 : decode cX10_correctionOf 25 = .ok (.iload 5, 2) := by decide +kernel
theorem dX10_correctionOf_27 : decode cX10_correctionOf 27 = .ok (.iaload, 1) := by decide +kernel
theorem dX10_correctionOf_28 : decode cX10_correctionOf 28 = .ok (.invokevirtual 50, 3) := by decide +kernel
theorem dX10_correctionOf_31 : decode cX10_correctionOf 31 = .ok (.ifCond .ne 5, 3) := by decide +kernel
theorem dX10_correctionOf_34 : decode cX10_correctionOf 34 = .ok (.dconst 0, 1) := by decide +kernel
theorem dX10_correctionOf_35 : decode cX10_correctionOf 35 = .ok (.dreturn, 1) := by decide +kernel
theorem dX10_correctionOf_36 : decode cX10_correctionOf 36 = .ok (.iload_n 2, 1) := by decide +kernel
theorem dX10_correctionOf_37 : decode cX10_correctionOf 37 = .ok (.aload_n 0, 1) := by decide +kernel
theorem dX10_correctionOf_38 : decode cX10_correctionOf 38 = .ok (.getfield 36, 3) := by decide +kernel
theorem dX10_correctionOf_41 : decode cX10_correctionOf 41 = .ok (.iload 5, 2) := by decide +kernel
theorem dX10_correctionOf_43 : decode cX10_correctionOf 43 = .ok (.iaload, 1) := by decide +kernel
theorem dX10_correctionOf_44 : decode cX10_correctionOf 44 = .ok (.iadd, 1) := by decide +kernel
theorem dX10_correctionOf_45 : decode cX10_correctionOf 45 = .ok (.istore_n 2, 1) := by decide +kernel
theorem dX10_correctionOf_46 : decode cX10_correctionOf 46 = .ok (.aload_n 0, 1) := by decide +kernel
theorem dX10_correctionOf_47 : decode cX10_correctionOf 47 = .ok (.dload_n 3, 1) := by decide +kernel
theorem dX10_correctionOf_48 : decode cX10_correctionOf 48 = .ok (.iload 5, 2) := by decide +kernel
theorem dX10_correctionOf_50 : decode cX10_correctionOf 50 = .ok (.aload_n 0, 1) := by decide +kernel
theorem dX10_correctionOf_51 : decode cX10_correctionOf 51 = .ok (.getfield 36, 3) := by decide +kernel
theorem dX10_correctionOf_54 : decode cX10_correctionOf 54 = .ok (.iload 5, 2) := by decide +kernel
theorem dX10_correctionOf_56 : decode cX10_correctionOf 56 = .ok (.iaload, 1) := by decide +kernel
theorem dX10_correctionOf_57 : decode cX10_correctionOf 57 = .ok (.invokevirtual 74, 3) := by decide +kernel
theorem dX10_correctionOf_60 : decode cX10_correctionOf 60 = .ok (.dstore_n 3, 1) := by decide +kernel
theorem dX10_correctionOf_61 : decode cX10_correctionOf 61 = .ok (.iinc 5 1, 3) := by decide +kernel
theorem dX10_correctionOf_64 : decode cX10_correctionOf 64 = .ok (.goto (-57), 3) := by decide +kernel
theorem dX10_correctionOf_67 : decode cX10_correctionOf 67 = .ok (.iload_n 1, 1) := by decide +kernel
theorem dX10_correctionOf_68 : decode cX10_correctionOf 68 = .ok (.ifCond .eq 17, 3) := by decide +kernel
theorem dX10_correctionOf_71 : decode cX10_correctionOf 71 = .ok (.iload_n 2, 1) := by decide +kernel
theorem dX10_correctionOf_72 : decode cX10_correctionOf 72 = .ok (.aload_n 0, 1) := by decide +kernel
theorem dX10_correctionOf_73 : decode cX10_correctionOf 73 = .ok (.getfield 7, 3) := by decide +kernel
theorem dX10_correctionOf_76 : decode cX10_correctionOf 76 = .ok (.iconst 1, 1) := by decide +kernel
theorem dX10_correctionOf_77 : decode cX10_correctionOf 77 = .ok (.iaload, 1) := by decide +kernel
theorem dX10_correctionOf_78 : decode cX10_correctionOf 78 = .ok (.if_icmp .ge 7, 3) := by decide +kernel
theorem dX10_correctionOf_81 : decode cX10_correctionOf 81 = .ok (.dconst 0, 1) := by decide +kernel
theorem dX10_correctionOf_82 : decode cX10_correctionOf 82 = .ok (.goto 4, 3) := by decide +kernel
theorem dX10_correctionOf_85 : decode cX10_correctionOf 85 = .ok (.dload_n 3, 1) := by decide +kernel
theorem dX10_correctionOf_86 : decode cX10_correctionOf 86 = .ok (.dreturn, 1) := by decide +kernel
theorem dX10_goesOn_0 : decode cX10_goesOn 0 = .ok (.aload_n 0, 1) := by decide +kernel
theorem dX10_goesOn_1 : decode cX10_goesOn 1 = .ok (.getfield 7, 3) := by decide +kernel
theorem dX10_goesOn_4 : decode cX10_goesOn 4 = .ok (.iconst 0, 1) := by decide +kernel
theorem dX10_goesOn_5 : decode cX10_goesOn 5 = .ok (.iaload, 1) := by decide +kernel
theorem dX10_goesOn_6 : decode cX10_goesOn 6 = .ok (.iconst 1, 1) := by decide +kernel
theorem dX10_goesOn_7 : decode cX10_goesOn 7 = .ok (.isub, 1) := by decide +kernel
theorem dX10_goesOn_8 : decode cX10_goesOn 8 = .ok (.istore_n 1, 1) := by decide +kernel
theorem dX10_goesOn_9 : decode cX10_goesOn 9 = .ok (.iload_n 1, 1) := by decide +kernel
theorem dX10_goesOn_10 : decode cX10_goesOn 10 = .ok (.ifCond .lt 26, 3) := by decide +kernel
theorem dX10_goesOn_13 : decode cX10_goesOn 13 = .ok (.aload_n 0, 1) := by decide +kernel
theorem dX10_goesOn_14 : decode cX10_goesOn 14 = .ok (.getfield 36, 3) := by decide +kernel
theorem dX10_goesOn_17 : decode cX10_goesOn 17 = .ok (.iload_n 1, 1) := by decide +kernel
theorem dX10_goesOn_18 : decode cX10_goesOn 18 = .ok (.iaload, 1) := by decide +kernel
theorem dX10_goesOn_19 : decode cX10_goesOn 19 = .ok (.iconst 5, 1) := by decide +kernel
theorem dX10_goesOn_20 : decode cX10_goesOn 20 = .ok (.if_icmp .ne 16, 3) := by decide +kernel
theorem dX10_goesOn_23 : decode cX10_goesOn 23 = .ok (.aload_n 0, 1) := by decide +kernel
theorem dX10_goesOn_24 : decode cX10_goesOn 24 = .ok (.getfield 36, 3) := by decide +kernel
theorem dX10_goesOn_27 : decode cX10_goesOn 27 = .ok (.iload_n 1, 1) := by decide +kernel
theorem dX10_goesOn_28 : decode cX10_goesOn 28 = .ok (.iconst 0, 1) := by decide +kernel
theorem dX10_goesOn_29 : decode cX10_goesOn 29 = .ok (.iastore, 1) := by decide +kernel
theorem dX10_goesOn_30 : decode cX10_goesOn 30 = .ok (.iinc 1 (-1), 3) := by decide +kernel
theorem dX10_goesOn_33 : decode cX10_goesOn 33 = .ok (.goto (-24), 3) := by decide +kernel
theorem dX10_goesOn_36 : decode cX10_goesOn 36 = .ok (.iload_n 1, 1) := by decide +kernel
theorem dX10_goesOn_37 : decode cX10_goesOn 37 = .ok (.ifCond .lt 13, 3) := by decide +kernel
theorem dX10_goesOn_40 : decode cX10_goesOn 40 = .ok (.aload_n 0, 1) := by decide +kernel
theorem dX10_goesOn_41 : decode cX10_goesOn 41 = .ok (.getfield 36, 3) := by decide +kernel
theorem dX10_goesOn_44 : decode cX10_goesOn 44 = .ok (.iload_n 1, 1) := by decide +kernel
theorem dX10_goesOn_45 : decode cX10_goesOn 45 = .ok (.dup2, 1) := by decide +kernel
theorem dX10_goesOn_46 : decode cX10_goesOn 46 = .ok (.iaload, 1) := by decide +kernel
theorem dX10_goesOn_47 : decode cX10_goesOn 47 = .ok (.iconst 1, 1) := by decide +kernel
theorem dX10_goesOn_48 : decode cX10_goesOn 48 = .ok (.iadd, 1) := by decide +kernel
theorem dX10_goesOn_49 : decode cX10_goesOn 49 = .ok (.iastore, 1) := by decide +kernel
theorem dX10_goesOn_50 : decode cX10_goesOn 50 = .ok (.iload_n 1, 1) := by decide +kernel
theorem dX10_goesOn_51 : decode cX10_goesOn 51 = .ok (.ifCond .lt 7, 3) := by decide +kernel
theorem dX10_goesOn_54 : decode cX10_goesOn 54 = .ok (.iconst 1, 1) := by decide +kernel
theorem dX10_goesOn_55 : decode cX10_goesOn 55 = .ok (.goto 4, 3) := by decide +kernel
theorem dX10_goesOn_58 : decode cX10_goesOn 58 = .ok (.iconst 0, 1) := by decide +kernel
theorem dX10_goesOn_59 : decode cX10_goesOn 59 = .ok (.ireturn, 1) := by decide +kernel
theorem dX10_greatestNow_0 : decode cX10_greatestNow 0 = .ok (.iconst 0, 1) := by decide +kernel
theorem dX10_greatestNow_1 : decode cX10_greatestNow 1 = .ok (.istore_n 2, 1) := by decide +kernel
theorem dX10_greatestNow_2 : decode cX10_greatestNow 2 = .ok (.iload_n 2, 1) := by decide +kernel
theorem dX10_greatestNow_3 : decode cX10_greatestNow 3 = .ok (.bipush 6, 2) := by decide +kernel
theorem dX10_greatestNow_5 : decode cX10_greatestNow 5 = .ok (.if_icmp .ge 16, 3) := by decide +kernel
theorem dX10_greatestNow_8 : decode cX10_greatestNow 8 = .ok (.aload_n 0, 1) := by decide +kernel
theorem dX10_greatestNow_9 : decode cX10_greatestNow 9 = .ok (.getfield 36, 3) := by decide +kernel
theorem dX10_greatestNow_12 : decode cX10_greatestNow 12 = .ok (.iload_n 2, 1) := by decide +kernel
theorem dX10_greatestNow_13 : decode cX10_greatestNow 13 = .ok (.iconst 0, 1) := by decide +kernel
theorem dX10_greatestNow_14 : decode cX10_greatestNow 14 = .ok (.iastore, 1) := by decide +kernel
theorem dX10_greatestNow_15 : decode cX10_greatestNow 15 = .ok (.iinc 2 1, 3) := by decide +kernel
theorem dX10_greatestNow_18 : decode cX10_greatestNow 18 = .ok (.goto (-16), 3) := by decide +kernel
theorem dX10_greatestNow_21 : decode cX10_greatestNow 21 = .ok (.aload_n 0, 1) := by decide +kernel
theorem dX10_greatestNow_22 : decode cX10_greatestNow 22 = .ok (.iload_n 1, 1) := by decide +kernel
theorem dX10_greatestNow_23 : decode cX10_greatestNow 23 = .ok (.invokevirtual 195, 3) := by decide +kernel
theorem dX10_greatestNow_26 : decode cX10_greatestNow 26 = .ok (.dstore_n 2, 1) := by decide +kernel
theorem dX10_greatestNow_27 : decode cX10_greatestNow 27 = .ok (.aload_n 0, 1) := by decide +kernel
theorem dX10_greatestNow_28 : decode cX10_greatestNow 28 = .ok (.invokevirtual 199, 3) := by decide +kernel
theorem dX10_greatestNow_31 : decode cX10_greatestNow 31 = .ok (.ifCond .eq 27, 3) := by decide +kernel
theorem dX10_greatestNow_34 : decode cX10_greatestNow 34 = .ok (.aload_n 0, 1) := by decide +kernel
theorem dX10_greatestNow_35 : decode cX10_greatestNow 35 = .ok (.iload_n 1, 1) := by decide +kernel
theorem dX10_greatestNow_36 : decode cX10_greatestNow 36 = .ok (.invokevirtual 195, 3) := by decide +kernel
theorem dX10_greatestNow_39 : decode cX10_greatestNow 39 = .ok (.dstore 4, 2) := by decide +kernel
theorem dX10_greatestNow_41 : decode cX10_greatestNow 41 = .ok (.dload 4, 2) := by decide +kernel
theorem dX10_greatestNow_43 : decode cX10_greatestNow 43 = .ok (.dload_n 2, 1) := by decide +kernel
theorem dX10_greatestNow_44 : decode cX10_greatestNow 44 = .ok (.dcmp .l, 1) := by decide +kernel
theorem dX10_greatestNow_45 : decode cX10_greatestNow 45 = .ok (.ifCond .le 8, 3) := by decide +kernel
theorem dX10_greatestNow_48 : decode cX10_greatestNow 48 = .ok (.dload 4, 2) := by decide +kernel
theorem dX10_greatestNow_50 : decode cX10_greatestNow 50 = .ok (.goto 4, 3) := by decide +kernel
theorem dX10_greatestNow_53 : decode cX10_greatestNow 53 = .ok (.dload_n 2, 1) := by decide +kernel
theorem dX10_greatestNow_54 : decode cX10_greatestNow 54 = .ok (.dstore_n 2, 1) := by decide +kernel
theorem dX10_greatestNow_55 : decode cX10_greatestNow 55 = .ok (.goto (-28), 3) := by decide +kernel
theorem dX10_greatestNow_58 : decode cX10_greatestNow 58 = .ok (.dload_n 2, 1) := by decide +kernel
theorem dX10_greatestNow_59 : decode cX10_greatestNow 59 = .ok (.dreturn, 1) := by decide +kernel
theorem dX10_greatest_0 : decode cX10_greatest 0 = .ok (.aload_n 0, 1) := by decide +kernel
theorem dX10_greatest_1 : decode cX10_greatest 1 = .ok (.iconst 0, 1) := by decide +kernel
theorem dX10_greatest_2 : decode cX10_greatest 2 = .ok (.putfield 39, 3) := by decide +kernel
theorem dX10_greatest_5 : decode cX10_greatest 5 = .ok (.aload_n 0, 1) := by decide +kernel
theorem dX10_greatest_6 : decode cX10_greatest 6 = .ok (.iload_n 1, 1) := by decide +kernel
theorem dX10_greatest_7 : decode cX10_greatest 7 = .ok (.invokevirtual 203, 3) := by decide +kernel
theorem dX10_greatest_10 : decode cX10_greatest 10 = .ok (.dreturn, 1) := by decide +kernel
theorem dX10_slightestNow_0 : decode cX10_slightestNow 0 = .ok (.iconst (-1), 1) := by decide +kernel
theorem dX10_slightestNow_1 : decode cX10_slightestNow 1 = .ok (.istore_n 1, 1) := by decide +kernel
theorem dX10_slightestNow_2 : decode cX10_slightestNow 2 = .ok (.dconst 0, 1) := by decide +kernel
theorem dX10_slightestNow_3 : decode cX10_slightestNow 3 = .ok (.dstore_n 2, 1) := by decide +kernel
theorem dX10_slightestNow_4 : decode cX10_slightestNow 4 = .ok (.iconst 0, 1) := by decide +kernel
theorem dX10_slightestNow_5 : decode cX10_slightestNow 5 = .ok (.istore 4, 2) := by decide +kernel
theorem dX10_slightestNow_7 : decode cX10_slightestNow 7 = .ok (.iload 4, 2) := by decide +kernel
theorem dX10_slightestNow_9 : decode cX10_slightestNow 9 = .ok (.aload_n 0, 1) := by decide +kernel
theorem dX10_slightestNow_10 : decode cX10_slightestNow 10 = .ok (.getfield 7, 3) := by decide +kernel
theorem dX10_slightestNow_13 : decode cX10_slightestNow 13 = .ok (.iconst 0, 1) := by decide +kernel
theorem dX10_slightestNow_14 : decode cX10_slightestNow 14 = .ok (.iaload, 1) := by decide +kernel
theorem dX10_slightestNow_15 : decode cX10_slightestNow 15 = .ok (.if_icmp .ge 66, 3) := by decide +kernel
theorem dX10_slightestNow_18 : decode cX10_slightestNow 18 = .ok (.aload_n 0, 1) := by decide +kernel
theorem dX10_slightestNow_19 : decode cX10_slightestNow 19 = .ok (.aload_n 0, 1) := by decide +kernel
theorem dX10_slightestNow_20 : decode cX10_slightestNow 20 = .ok (.getfield 7, 3) := by decide +kernel
theorem dX10_slightestNow_23 : decode cX10_slightestNow 23 = .ok (.iconst 1, 1) := by decide +kernel
theorem dX10_slightestNow_24 : decode cX10_slightestNow 24 = .ok (.iaload, 1) := by decide +kernel
theorem dX10_slightestNow_25 : decode cX10_slightestNow 25 = .ok (.iload 4, 2) := by decide +kernel
theorem dX10_slightestNow_27 : decode cX10_slightestNow 27 = .ok (.invokevirtual 174, 3) := by decide +kernel
theorem dX10_slightestNow_30 : decode cX10_slightestNow 30 = .ok (.dstore 5, 2) := by decide +kernel
theorem dX10_slightestNow_32 : decode cX10_slightestNow 32 = .ok (.iload_n 1, 1) := by decide +kernel
theorem dX10_slightestNow_33 : decode cX10_slightestNow 33 = .ok (.iconst (-1), 1) := by decide +kernel
theorem dX10_slightestNow_34 : decode cX10_slightestNow 34 = .ok (.if_icmp .eq 10, 3) := by decide +kernel
theorem dX10_slightestNow_37 : decode cX10_slightestNow 37 = .ok (.dload 5, 2) := by decide +kernel
theorem dX10_slightestNow_39 : decode cX10_slightestNow 39 = .ok (.dload_n 2, 1) := by decide +kernel
theorem dX10_slightestNow_40 : decode cX10_slightestNow 40 = .ok (.dcmp .l, 1) := by decide +kernel
theorem dX10_slightestNow_41 : decode cX10_slightestNow 41 = .ok (.ifCond .le 7, 3) := by decide +kernel
theorem dX10_slightestNow_44 : decode cX10_slightestNow 44 = .ok (.iconst 1, 1) := by decide +kernel
theorem dX10_slightestNow_45 : decode cX10_slightestNow 45 = .ok (.goto 4, 3) := by decide +kernel
theorem dX10_slightestNow_48 : decode cX10_slightestNow 48 = .ok (.iconst 0, 1) := by decide +kernel
theorem dX10_slightestNow_49 : decode cX10_slightestNow 49 = .ok (.istore 7, 2) := by decide +kernel
theorem dX10_slightestNow_51 : decode cX10_slightestNow 51 = .ok (.iload 7, 2) := by decide +kernel
theorem dX10_slightestNow_53 : decode cX10_slightestNow 53 = .ok (.ifCond .eq 8, 3) := by decide +kernel
theorem dX10_slightestNow_56 : decode cX10_slightestNow 56 = .ok (.iload 4, 2) := by decide +kernel
theorem dX10_slightestNow_58 : decode cX10_slightestNow 58 = .ok (.goto 4, 3) := by decide +kernel
theorem dX10_slightestNow_61 : decode cX10_slightestNow 61 = .ok (.iload_n 1, 1) := by decide +kernel
theorem dX10_slightestNow_62 : decode cX10_slightestNow 62 = .ok (.istore_n 1, 1) := by decide +kernel
theorem dX10_slightestNow_63 : decode cX10_slightestNow 63 = .ok (.iload 7, 2) := by decide +kernel
theorem dX10_slightestNow_65 : decode cX10_slightestNow 65 = .ok (.ifCond .eq 8, 3) := by decide +kernel
theorem dX10_slightestNow_68 : decode cX10_slightestNow 68 = .ok (.dload 5, 2) := by decide +kernel
theorem dX10_slightestNow_70 : decode cX10_slightestNow 70 = .ok (.goto 4, 3) := by decide +kernel
theorem dX10_slightestNow_73 : decode cX10_slightestNow 73 = .ok (.dload_n 2, 1) := by decide +kernel
theorem dX10_slightestNow_74 : decode cX10_slightestNow 74 = .ok (.dstore_n 2, 1) := by decide +kernel
theorem dX10_slightestNow_75 : decode cX10_slightestNow 75 = .ok (.iinc 4 1, 3) := by decide +kernel
theorem dX10_slightestNow_78 : decode cX10_slightestNow 78 = .ok (.goto (-71), 3) := by decide +kernel
theorem dX10_slightestNow_81 : decode cX10_slightestNow 81 = .ok (.iload_n 1, 1) := by decide +kernel
theorem dX10_slightestNow_82 : decode cX10_slightestNow 82 = .ok (.ireturn, 1) := by decide +kernel
theorem dX10_slightest_0 : decode cX10_slightest 0 = .ok (.aload_n 0, 1) := by decide +kernel
theorem dX10_slightest_1 : decode cX10_slightest 1 = .ok (.iconst 0, 1) := by decide +kernel
theorem dX10_slightest_2 : decode cX10_slightest 2 = .ok (.putfield 39, 3) := by decide +kernel
theorem dX10_slightest_5 : decode cX10_slightest 5 = .ok (.aload_n 0, 1) := by decide +kernel
theorem dX10_slightest_6 : decode cX10_slightest 6 = .ok (.invokevirtual 206, 3) := by decide +kernel
theorem dX10_slightest_9 : decode cX10_slightest 9 = .ok (.ireturn, 1) := by decide +kernel
theorem dX10_mix_0 : decode cX10_mix 0 = .ok (.aload_n 0, 1) := by decide +kernel
theorem dX10_mix_1 : decode cX10_mix 1 = .ok (.ldc2_w 209, 3) := by decide +kernel
theorem dX10_mix_4 : decode cX10_mix 4 = .ok (.aload_n 0, 1) := by decide +kernel
theorem dX10_mix_5 : decode cX10_mix 5 = .ok (.getfield 211, 3) := by decide +kernel
theorem dX10_mix_8 : decode cX10_mix 8 = .ok (.lmul, 1) := by decide +kernel
theorem dX10_mix_9 : decode cX10_mix 9 = .ok (.lload_n 1, 1) := by decide +kernel
theorem dX10_mix_10 : decode cX10_mix 10 = .ok (.ladd, 1) := by decide +kernel
theorem dX10_mix_11 : decode cX10_mix 11 = .ok (.putfield 211, 3) := by decide +kernel
theorem dX10_mix_14 : decode cX10_mix 14 = .ok (.return_, 1) := by decide +kernel
theorem dX10_mixPart_0 : decode cX10_mixPart 0 = .ok (.iconst 0, 1) := by decide +kernel
theorem dX10_mixPart_1 : decode cX10_mixPart 1 = .ok (.istore_n 2, 1) := by decide +kernel
theorem dX10_mixPart_2 : decode cX10_mixPart 2 = .ok (.iload_n 2, 1) := by decide +kernel
theorem dX10_mixPart_3 : decode cX10_mixPart 3 = .ok (.bipush 7, 2) := by decide +kernel
theorem dX10_mixPart_5 : decode cX10_mixPart 5 = .ok (.if_icmp .ge 20, 3) := by decide +kernel
theorem dX10_mixPart_8 : decode cX10_mixPart 8 = .ok (.aload_n 0, 1) := by decide +kernel
theorem dX10_mixPart_9 : decode cX10_mixPart 9 = .ok (.aload_n 0, 1) := by decide +kernel
theorem dX10_mixPart_10 : decode cX10_mixPart 10 = .ok (.iload_n 1, 1) := by decide +kernel
theorem dX10_mixPart_11 : decode cX10_mixPart 11 = .ok (.iload_n 2, 1) := by decide +kernel
theorem dX10_mixPart_12 : decode cX10_mixPart 12 = .ok (.invokevirtual 157, 3) := by decide +kernel
theorem dX10_mixPart_15 : decode cX10_mixPart 15 = .ok (.i2l, 1) := by decide +kernel
theorem dX10_mixPart_16 : decode cX10_mixPart 16 = .ok (.invokevirtual 215, 3) := by decide +kernel
theorem dX10_mixPart_19 : decode cX10_mixPart 19 = .ok (.iinc 2 1, 3) := by decide +kernel
theorem dX10_mixPart_22 : decode cX10_mixPart 22 = .ok (.goto (-20), 3) := by decide +kernel
theorem dX10_mixPart_25 : decode cX10_mixPart 25 = .ok (.iconst 0, 1) := by decide +kernel
theorem dX10_mixPart_26 : decode cX10_mixPart 26 = .ok (.istore_n 2, 1) := by decide +kernel
theorem dX10_mixPart_27 : decode cX10_mixPart 27 = .ok (.iload_n 2, 1) := by decide +kernel
theorem dX10_mixPart_28 : decode cX10_mixPart 28 = .ok (.bipush 6, 2) := by decide +kernel
theorem dX10_mixPart_30 : decode cX10_mixPart 30 = .ok (.if_icmp .ge 20, 3) := by decide +kernel
theorem dX10_mixPart_33 : decode cX10_mixPart 33 = .ok (.aload_n 0, 1) := by decide +kernel
theorem dX10_mixPart_34 : decode cX10_mixPart 34 = .ok (.aload_n 0, 1) := by decide +kernel
theorem dX10_mixPart_35 : decode cX10_mixPart 35 = .ok (.iload_n 1, 1) := by decide +kernel
theorem dX10_mixPart_36 : decode cX10_mixPart 36 = .ok (.iload_n 2, 1) := by decide +kernel
theorem dX10_mixPart_37 : decode cX10_mixPart 37 = .ok (.invokevirtual 50, 3) := by decide +kernel
theorem dX10_mixPart_40 : decode cX10_mixPart 40 = .ok (.i2l, 1) := by decide +kernel
theorem dX10_mixPart_41 : decode cX10_mixPart 41 = .ok (.invokevirtual 215, 3) := by decide +kernel
theorem dX10_mixPart_44 : decode cX10_mixPart 44 = .ok (.iinc 2 1, 3) := by decide +kernel
theorem dX10_mixPart_47 : decode cX10_mixPart 47 = .ok (.goto (-20), 3) := by decide +kernel
theorem dX10_mixPart_50 : decode cX10_mixPart 50 = .ok (.iconst 0, 1) := by decide +kernel
theorem dX10_mixPart_51 : decode cX10_mixPart 51 = .ok (.istore_n 2, 1) := by decide +kernel
theorem dX10_mixPart_52 : decode cX10_mixPart 52 = .ok (.iload_n 2, 1) := by decide +kernel
theorem dX10_mixPart_53 : decode cX10_mixPart 53 = .ok (.bipush 6, 2) := by decide +kernel
theorem dX10_mixPart_55 : decode cX10_mixPart 55 = .ok (.if_icmp .ge 20, 3) := by decide +kernel
theorem dX10_mixPart_58 : decode cX10_mixPart 58 = .ok (.aload_n 0, 1) := by decide +kernel
theorem dX10_mixPart_59 : decode cX10_mixPart 59 = .ok (.aload_n 0, 1) := by decide +kernel
theorem dX10_mixPart_60 : decode cX10_mixPart 60 = .ok (.iload_n 1, 1) := by decide +kernel
theorem dX10_mixPart_61 : decode cX10_mixPart 61 = .ok (.iload_n 2, 1) := by decide +kernel
theorem dX10_mixPart_62 : decode cX10_mixPart 62 = .ok (.invokevirtual 54, 3) := by decide +kernel
theorem dX10_mixPart_65 : decode cX10_mixPart 65 = .ok (.i2l, 1) := by decide +kernel
theorem dX10_mixPart_66 : decode cX10_mixPart 66 = .ok (.invokevirtual 215, 3) := by decide +kernel
theorem dX10_mixPart_69 : decode cX10_mixPart 69 = .ok (.iinc 2 1, 3) := by decide +kernel
theorem dX10_mixPart_72 : decode cX10_mixPart 72 = .ok (.goto (-20), 3) := by decide +kernel
theorem dX10_mixPart_75 : decode cX10_mixPart 75 = .ok (.aload_n 0, 1) := by decide +kernel
theorem dX10_mixPart_76 : decode cX10_mixPart 76 = .ok (.aload_n 0, 1) := by decide +kernel
theorem dX10_mixPart_77 : decode cX10_mixPart 77 = .ok (.iload_n 1, 1) := by decide +kernel
theorem dX10_mixPart_78 : decode cX10_mixPart 78 = .ok (.invokevirtual 164, 3) := by decide +kernel
theorem dX10_mixPart_81 : decode cX10_mixPart 81 = .ok (.i2l, 1) := by decide +kernel
theorem dX10_mixPart_82 : decode cX10_mixPart 82 = .ok (.invokevirtual 215, 3) := by decide +kernel
theorem dX10_mixPart_85 : decode cX10_mixPart 85 = .ok (.return_, 1) := by decide +kernel
theorem dX10_digest_0 : decode cX10_digest 0 = .ok (.aload_n 0, 1) := by decide +kernel
theorem dX10_digest_1 : decode cX10_digest 1 = .ok (.iconst 0, 1) := by decide +kernel
theorem dX10_digest_2 : decode cX10_digest 2 = .ok (.putfield 39, 3) := by decide +kernel
theorem dX10_digest_5 : decode cX10_digest 5 = .ok (.aload_n 0, 1) := by decide +kernel
theorem dX10_digest_6 : decode cX10_digest 6 = .ok (.ldc2_w 219, 3) := by decide +kernel
theorem dX10_digest_9 : decode cX10_digest 9 = .ok (.putfield 211, 3) := by decide +kernel
theorem dX10_digest_12 : decode cX10_digest 12 = .ok (.iconst 0, 1) := by decide +kernel
theorem dX10_digest_13 : decode cX10_digest 13 = .ok (.istore_n 1, 1) := by decide +kernel
theorem dX10_digest_14 : decode cX10_digest 14 = .ok (.iload_n 1, 1) := by decide +kernel
theorem dX10_digest_15 : decode cX10_digest 15 = .ok (.bipush 9, 2) := by decide +kernel
theorem dX10_digest_17 : decode cX10_digest 17 = .ok (.if_icmp .ge 19, 3) := by decide +kernel
theorem dX10_digest_20 : decode cX10_digest 20 = .ok (.aload_n 0, 1) := by decide +kernel
theorem dX10_digest_21 : decode cX10_digest 21 = .ok (.aload_n 0, 1) := by decide +kernel
theorem dX10_digest_22 : decode cX10_digest 22 = .ok (.iload_n 1, 1) := by decide +kernel
theorem dX10_digest_23 : decode cX10_digest 23 = .ok (.invokevirtual 171, 3) := by decide +kernel
theorem dX10_digest_26 : decode cX10_digest 26 = .ok (.i2l, 1) := by decide +kernel
theorem dX10_digest_27 : decode cX10_digest 27 = .ok (.invokevirtual 215, 3) := by decide +kernel
theorem dX10_digest_30 : decode cX10_digest 30 = .ok (.iinc 1 1, 3) := by decide +kernel
theorem dX10_digest_33 : decode cX10_digest 33 = .ok (.goto (-19), 3) := by decide +kernel
theorem dX10_digest_36 : decode cX10_digest 36 = .ok (.iconst 0, 1) := by decide +kernel
theorem dX10_digest_37 : decode cX10_digest 37 = .ok (.istore_n 1, 1) := by decide +kernel
theorem dX10_digest_38 : decode cX10_digest 38 = .ok (.iload_n 1, 1) := by decide +kernel
theorem dX10_digest_39 : decode cX10_digest 39 = .ok (.aload_n 0, 1) := by decide +kernel
theorem dX10_digest_40 : decode cX10_digest 40 = .ok (.getfield 7, 3) := by decide +kernel
theorem dX10_digest_43 : decode cX10_digest 43 = .ok (.iconst 0, 1) := by decide +kernel
theorem dX10_digest_44 : decode cX10_digest 44 = .ok (.iaload, 1) := by decide +kernel
theorem dX10_digest_45 : decode cX10_digest 45 = .ok (.if_icmp .ge 14, 3) := by decide +kernel
theorem dX10_digest_48 : decode cX10_digest 48 = .ok (.aload_n 0, 1) := by decide +kernel
theorem dX10_digest_49 : decode cX10_digest 49 = .ok (.iload_n 1, 1) := by decide +kernel
theorem dX10_digest_50 : decode cX10_digest 50 = .ok (.invokevirtual 221, 3) := by decide +kernel
theorem dX10_digest_53 : decode cX10_digest 53 = .ok (.iinc 1 1, 3) := by decide +kernel
theorem dX10_digest_56 : decode cX10_digest 56 = .ok (.goto (-18), 3) := by decide +kernel
theorem dX10_digest_59 : decode cX10_digest 59 = .ok (.iconst 0, 1) := by decide +kernel
theorem dX10_digest_60 : decode cX10_digest 60 = .ok (.istore_n 1, 1) := by decide +kernel
theorem dX10_digest_61 : decode cX10_digest 61 = .ok (.iload_n 1, 1) := by decide +kernel
theorem dX10_digest_62 : decode cX10_digest 62 = .ok (.bipush 15, 2) := by decide +kernel
theorem dX10_digest_64 : decode cX10_digest 64 = .ok (.if_icmp .ge 29, 3) := by decide +kernel
theorem dX10_digest_67 : decode cX10_digest 67 = .ok (.aload_n 0, 1) := by decide +kernel
theorem dX10_digest_68 : decode cX10_digest 68 = .ok (.aload_n 0, 1) := by decide +kernel
theorem dX10_digest_69 : decode cX10_digest 69 = .ok (.iload_n 1, 1) := by decide +kernel
theorem dX10_digest_70 : decode cX10_digest 70 = .ok (.iconst 0, 1) := by decide +kernel
theorem dX10_digest_71 : decode cX10_digest 71 = .ok (.invokevirtual 160, 3) := by decide +kernel
theorem dX10_digest_74 : decode cX10_digest 74 = .ok (.invokevirtual 215, 3) := by decide +kernel
theorem dX10_digest_77 : decode cX10_digest 77 = .ok (.aload_n 0, 1) := by decide +kernel
theorem dX10_digest_78 : decode cX10_digest 78 = .ok (.aload_n 0, 1) := by decide +kernel
theorem dX10_digest_79 : decode cX10_digest 79 = .ok (.iload_n 1, 1) := by decide +kernel
theorem dX10_digest_80 : decode cX10_digest 80 = .ok (.iconst 1, 1) := by decide +kernel
theorem dX10_digest_81 : decode cX10_digest 81 = .ok (.invokevirtual 160, 3) := by decide +kernel
theorem dX10_digest_84 : decode cX10_digest 84 = .ok (.invokevirtual 215, 3) := by decide +kernel
theorem dX10_digest_87 : decode cX10_digest 87 = .ok (.iinc 1 5, 3) := by decide +kernel
theorem dX10_digest_90 : decode cX10_digest 90 = .ok (.goto (-29), 3) := by decide +kernel
theorem dX10_digest_93 : decode cX10_digest 93 = .ok (.iconst 0, 1) := by decide +kernel
theorem dX10_digest_94 : decode cX10_digest 94 = .ok (.istore_n 1, 1) := by decide +kernel
theorem dX10_digest_95 : decode cX10_digest 95 = .ok (.iload_n 1, 1) := by decide +kernel
theorem dX10_digest_96 : decode cX10_digest 96 = .ok (.bipush 7, 2) := by decide +kernel
theorem dX10_digest_98 : decode cX10_digest 98 = .ok (.if_icmp .ge 21, 3) := by decide +kernel
theorem dX10_digest_101 : decode cX10_digest 101 = .ok (.aload_n 0, 1) := by decide +kernel
theorem dX10_digest_102 : decode cX10_digest 102 = .ok (.aload_n 0, 1) := by decide +kernel
theorem dX10_digest_103 : decode cX10_digest 103 = .ok (.iload_n 1, 1) := by decide +kernel
theorem dX10_digest_104 : decode cX10_digest 104 = .ok (.invokevirtual 186, 3) := by decide +kernel
theorem dX10_digest_107 : decode cX10_digest 107 = .ok (.invokestatic 224, 3) := by decide +kernel
theorem dX10_digest_110 : decode cX10_digest 110 = .ok (.invokevirtual 215, 3) := by decide +kernel
theorem dX10_digest_113 : decode cX10_digest 113 = .ok (.iinc 1 1, 3) := by decide +kernel
theorem dX10_digest_116 : decode cX10_digest 116 = .ok (.goto (-21), 3) := by decide +kernel
theorem dX10_digest_119 : decode cX10_digest 119 = .ok (.aload_n 0, 1) := by decide +kernel
theorem dX10_digest_120 : decode cX10_digest 120 = .ok (.aload_n 0, 1) := by decide +kernel
theorem dX10_digest_121 : decode cX10_digest 121 = .ok (.iconst 5, 1) := by decide +kernel
theorem dX10_digest_122 : decode cX10_digest 122 = .ok (.iconst (-1), 1) := by decide +kernel
theorem dX10_digest_123 : decode cX10_digest 123 = .ok (.invokevirtual 174, 3) := by decide +kernel
theorem dX10_digest_126 : decode cX10_digest 126 = .ok (.invokestatic 224, 3) := by decide +kernel
theorem dX10_digest_129 : decode cX10_digest 129 = .ok (.invokevirtual 215, 3) := by decide +kernel
theorem dX10_digest_132 : decode cX10_digest 132 = .ok (.aload_n 0, 1) := by decide +kernel
theorem dX10_digest_133 : decode cX10_digest 133 = .ok (.aload_n 0, 1) := by decide +kernel
theorem dX10_digest_134 : decode cX10_digest 134 = .ok (.iconst 1, 1) := by decide +kernel
theorem dX10_digest_135 : decode cX10_digest 135 = .ok (.invokevirtual 203, 3) := by decide +kernel
theorem dX10_digest_138 : decode cX10_digest 138 = .ok (.invokestatic 224, 3) := by decide +kernel
theorem dX10_digest_141 : decode cX10_digest 141 = .ok (.invokevirtual 215, 3) := by decide +kernel
theorem dX10_digest_144 : decode cX10_digest 144 = .ok (.aload_n 0, 1) := by decide +kernel
theorem dX10_digest_145 : decode cX10_digest 145 = .ok (.aload_n 0, 1) := by decide +kernel
theorem dX10_digest_146 : decode cX10_digest 146 = .ok (.bipush 100, 2) := by decide +kernel
theorem dX10_digest_148 : decode cX10_digest 148 = .ok (.invokevirtual 192, 3) := by decide +kernel
theorem dX10_digest_151 : decode cX10_digest 151 = .ok (.i2l, 1) := by decide +kernel
theorem dX10_digest_152 : decode cX10_digest 152 = .ok (.invokevirtual 215, 3) := by decide +kernel
theorem dX10_digest_155 : decode cX10_digest 155 = .ok (.aload_n 0, 1) := by decide +kernel
theorem dX10_digest_156 : decode cX10_digest 156 = .ok (.aload_n 0, 1) := by decide +kernel
theorem dX10_digest_157 : decode cX10_digest 157 = .ok (.invokevirtual 206, 3) := by decide +kernel
theorem dX10_digest_160 : decode cX10_digest 160 = .ok (.i2l, 1) := by decide +kernel
theorem dX10_digest_161 : decode cX10_digest 161 = .ok (.invokevirtual 215, 3) := by decide +kernel
theorem dX10_digest_164 : decode cX10_digest 164 = .ok (.aload_n 0, 1) := by decide +kernel
theorem dX10_digest_165 : decode cX10_digest 165 = .ok (.aload_n 0, 1) := by decide +kernel
theorem dX10_digest_166 : decode cX10_digest 166 = .ok (.getfield 126, 3) := by decide +kernel
theorem dX10_digest_169 : decode cX10_digest 169 = .ok (.i2l, 1) := by decide +kernel
theorem dX10_digest_170 : decode cX10_digest 170 = .ok (.invokevirtual 215, 3) := by decide +kernel
theorem dX10_digest_173 : decode cX10_digest 173 = .ok (.iconst 0, 1) := by decide +kernel
theorem dX10_digest_174 : decode cX10_digest 174 = .ok (.istore_n 1, 1) := by decide +kernel
theorem dX10_digest_175 : decode cX10_digest 175 = .ok (.iload_n 1, 1) := by decide +kernel
theorem dX10_digest_176 : decode cX10_digest 176 = .ok (.aload_n 0, 1) := by decide +kernel
theorem dX10_digest_177 : decode cX10_digest 177 = .ok (.getfield 126, 3) := by decide +kernel
theorem dX10_digest_180 : decode cX10_digest 180 = .ok (.if_icmp .ge 20, 3) := by decide +kernel
theorem dX10_digest_183 : decode cX10_digest 183 = .ok (.aload_n 0, 1) := by decide +kernel
theorem dX10_digest_184 : decode cX10_digest 184 = .ok (.aload_n 0, 1) := by decide +kernel
theorem dX10_digest_185 : decode cX10_digest 185 = .ok (.getfield 23, 3) := by decide +kernel
theorem dX10_digest_188 : decode cX10_digest 188 = .ok (.iload_n 1, 1) := by decide +kernel
theorem dX10_digest_189 : decode cX10_digest 189 = .ok (.iaload, 1) := by decide +kernel
theorem dX10_digest_190 : decode cX10_digest 190 = .ok (.i2l, 1) := by decide +kernel
theorem dX10_digest_191 : decode cX10_digest 191 = .ok (.invokevirtual 215, 3) := by decide +kernel
theorem dX10_digest_194 : decode cX10_digest 194 = .ok (.iinc 1 1, 3) := by decide +kernel
theorem dX10_digest_197 : decode cX10_digest 197 = .ok (.goto (-22), 3) := by decide +kernel
theorem dX10_digest_200 : decode cX10_digest 200 = .ok (.aload_n 0, 1) := by decide +kernel
theorem dX10_digest_201 : decode cX10_digest 201 = .ok (.getfield 211, 3) := by decide +kernel
theorem dX10_digest_204 : decode cX10_digest 204 = .ok (.lreturn, 1) := by decide +kernel
theorem dJxe99ae_isNaN_b9ae7_0 : decode cJxe99ae_isNaN_b9ae7 0 = .ok (.dload_n 0, 1) := by decide +kernel
theorem dJxe99ae_isNaN_b9ae7_1 : decode cJxe99ae_isNaN_b9ae7 1 = .ok (.dload_n 0, 1) := by decide +kernel
theorem dJxe99ae_isNaN_b9ae7_2 : decode cJxe99ae_isNaN_b9ae7 2 = .ok (.dcmp .l, 1) := by decide +kernel
theorem dJxe99ae_isNaN_b9ae7_3 : decode cJxe99ae_isNaN_b9ae7 3 = .ok (.ifCond .eq 7, 3) := by decide +kernel
theorem dJxe99ae_isNaN_b9ae7_6 : decode cJxe99ae_isNaN_b9ae7 6 = .ok (.iconst 1, 1) := by decide +kernel
theorem dJxe99ae_isNaN_b9ae7_7 : decode cJxe99ae_isNaN_b9ae7 7 = .ok (.goto 4, 3) := by decide +kernel
theorem dJxe99ae_isNaN_b9ae7_10 : decode cJxe99ae_isNaN_b9ae7 10 = .ok (.iconst 0, 1) := by decide +kernel
theorem dJxe99ae_isNaN_b9ae7_11 : decode cJxe99ae_isNaN_b9ae7 11 = .ok (.ireturn, 1) := by decide +kernel
theorem dJxe99ae_doubleToLongBits_ccdee_0 : decode cJxe99ae_doubleToLongBits_ccdee 0 = .ok (.dload_n 0, 1) := by decide +kernel
theorem dJxe99ae_doubleToLongBits_ccdee_1 : decode cJxe99ae_doubleToLongBits_ccdee 1 = .ok (.invokestatic 122, 3) := by decide +kernel
theorem dJxe99ae_doubleToLongBits_ccdee_4 : decode cJxe99ae_doubleToLongBits_ccdee 4 = .ok (.ifCond .ne 8, 3) := by decide +kernel
theorem dJxe99ae_doubleToLongBits_ccdee_7 : decode cJxe99ae_doubleToLongBits_ccdee 7 = .ok (.dload_n 0, 1) := by decide +kernel
theorem dJxe99ae_doubleToLongBits_ccdee_8 : decode cJxe99ae_doubleToLongBits_ccdee 8 = .ok (.invokestatic 134, 3) := by decide +kernel
theorem dJxe99ae_doubleToLongBits_ccdee_11 : decode cJxe99ae_doubleToLongBits_ccdee 11 = .ok (.lreturn, 1) := by decide +kernel
theorem dJxe99ae_doubleToLongBits_ccdee_12 : decode cJxe99ae_doubleToLongBits_ccdee 12 = .ok (.ldc2_w 137, 3) := by decide +kernel
theorem dJxe99ae_doubleToLongBits_ccdee_15 : decode cJxe99ae_doubleToLongBits_ccdee 15 = .ok (.lreturn, 1) := by decide +kernel
theorem dJ9_max_7cf53_0 : decode cJ9_max_7cf53 0 = .ok (.iload_n 0, 1) := by decide +kernel
theorem dJ9_max_7cf53_1 : decode cJ9_max_7cf53 1 = .ok (.iload_n 1, 1) := by decide +kernel
theorem dJ9_max_7cf53_2 : decode cJ9_max_7cf53 2 = .ok (.if_icmp .lt 7, 3) := by decide +kernel
theorem dJ9_max_7cf53_5 : decode cJ9_max_7cf53 5 = .ok (.iload_n 0, 1) := by decide +kernel
theorem dJ9_max_7cf53_6 : decode cJ9_max_7cf53 6 = .ok (.goto 4, 3) := by decide +kernel
theorem dJ9_max_7cf53_9 : decode cJ9_max_7cf53 9 = .ok (.iload_n 1, 1) := by decide +kernel
theorem dJ9_max_7cf53_10 : decode cJ9_max_7cf53 10 = .ok (.ireturn, 1) := by decide +kernel
theorem dJ9_min_7cf53_0 : decode cJ9_min_7cf53 0 = .ok (.iload_n 0, 1) := by decide +kernel
theorem dJ9_min_7cf53_1 : decode cJ9_min_7cf53 1 = .ok (.iload_n 1, 1) := by decide +kernel
theorem dJ9_min_7cf53_2 : decode cJ9_min_7cf53 2 = .ok (.if_icmp .gt 7, 3) := by decide +kernel
theorem dJ9_min_7cf53_5 : decode cJ9_min_7cf53 5 = .ok (.iload_n 0, 1) := by decide +kernel
theorem dJ9_min_7cf53_6 : decode cJ9_min_7cf53 6 = .ok (.goto 4, 3) := by decide +kernel
theorem dJ9_min_7cf53_9 : decode cJ9_min_7cf53 9 = .ok (.iload_n 1, 1) := by decide +kernel
theorem dJ9_min_7cf53_10 : decode cJ9_min_7cf53 10 = .ok (.ireturn, 1) := by decide +kernel
theorem dL_addPart_0 : decode cL_addPart 0 = .ok (.aload_n 2, 1) := by decide +kernel
theorem dL_addPart_1 : decode cL_addPart 1 = .ok (.iconst 0, 1) := by decide +kernel
theorem dL_addPart_2 : decode cL_addPart 2 = .ok (.aload_n 0, 1) := by decide +kernel
theorem dL_addPart_3 : decode cL_addPart 3 = .ok (.iload_n 1, 1) := by decide +kernel
theorem dL_addPart_4 : decode cL_addPart 4 = .ok (.invokevirtual 7, 3) := by decide +kernel
theorem dL_addPart_7 : decode cL_addPart 7 = .ok (.i2l, 1) := by decide +kernel
theorem dL_addPart_8 : decode cL_addPart 8 = .ok (.lastore, 1) := by decide +kernel
theorem dL_addPart_9 : decode cL_addPart 9 = .ok (.goto 9, 3) := by decide +kernel
theorem dL_addPart_12 : decode cL_addPart 12 = .ok (.astore_n 3, 1) := by decide +kernel
theorem dL_addPart_13 : decode cL_addPart 13 = .ok (.iconst 1, 1) := by decide +kernel
theorem dL_addPart_14 : decode cL_addPart 14 = .ok (.ireturn, 1) := by decide +kernel
theorem dL_addPart_15 : decode cL_addPart 15 = .ok (.astore_n 3, 1) := by decide +kernel
theorem dL_addPart_16 : decode cL_addPart 16 = .ok (.iconst 2, 1) := by decide +kernel
theorem dL_addPart_17 : decode cL_addPart 17 = .ok (.ireturn, 1) := by decide +kernel
theorem dL_addPart_18 : decode cL_addPart 18 = .ok (.iconst 0, 1) := by decide +kernel
theorem dL_addPart_19 : decode cL_addPart 19 = .ok (.ireturn, 1) := by decide +kernel
theorem dL_removePart_0 : decode cL_removePart 0 = .ok (.aload_n 2, 1) := by decide +kernel
theorem dL_removePart_1 : decode cL_removePart 1 = .ok (.iconst 0, 1) := by decide +kernel
theorem dL_removePart_2 : decode cL_removePart 2 = .ok (.aload_n 0, 1) := by decide +kernel
theorem dL_removePart_3 : decode cL_removePart 3 = .ok (.iload_n 1, 1) := by decide +kernel
theorem dL_removePart_4 : decode cL_removePart 4 = .ok (.invokevirtual 17, 3) := by decide +kernel
theorem dL_removePart_7 : decode cL_removePart 7 = .ok (.i2l, 1) := by decide +kernel
theorem dL_removePart_8 : decode cL_removePart 8 = .ok (.lastore, 1) := by decide +kernel
theorem dL_removePart_9 : decode cL_removePart 9 = .ok (.goto 6, 3) := by decide +kernel
theorem dL_removePart_12 : decode cL_removePart 12 = .ok (.astore_n 3, 1) := by decide +kernel
theorem dL_removePart_13 : decode cL_removePart 13 = .ok (.iconst 1, 1) := by decide +kernel
theorem dL_removePart_14 : decode cL_removePart 14 = .ok (.ireturn, 1) := by decide +kernel
theorem dL_removePart_15 : decode cL_removePart 15 = .ok (.iconst 0, 1) := by decide +kernel
theorem dL_removePart_16 : decode cL_removePart 16 = .ok (.ireturn, 1) := by decide +kernel
theorem dL_weigh_0 : decode cL_weigh 0 = .ok (.aload 4, 2) := by decide +kernel
theorem dL_weigh_2 : decode cL_weigh 2 = .ok (.iconst 0, 1) := by decide +kernel
theorem dL_weigh_3 : decode cL_weigh 3 = .ok (.aload_n 0, 1) := by decide +kernel
theorem dL_weigh_4 : decode cL_weigh 4 = .ok (.iload_n 1, 1) := by decide +kernel
theorem dL_weigh_5 : decode cL_weigh 5 = .ok (.iload_n 2, 1) := by decide +kernel
theorem dL_weigh_6 : decode cL_weigh 6 = .ok (.iload_n 3, 1) := by decide +kernel
theorem dL_weigh_7 : decode cL_weigh 7 = .ok (.invokevirtual 22, 3) := by decide +kernel
theorem dL_weigh_10 : decode cL_weigh 10 = .ok (.i2l, 1) := by decide +kernel
theorem dL_weigh_11 : decode cL_weigh 11 = .ok (.lastore, 1) := by decide +kernel
theorem dL_weigh_12 : decode cL_weigh 12 = .ok (.goto 15, 3) := by decide +kernel
theorem dL_weigh_15 : decode cL_weigh 15 = .ok (.astore 5, 2) := by decide +kernel
theorem dL_weigh_17 : decode cL_weigh 17 = .ok (.iconst 1, 1) := by decide +kernel
theorem dL_weigh_18 : decode cL_weigh 18 = .ok (.ireturn, 1) := by decide +kernel
theorem dL_weigh_19 : decode cL_weigh 19 = .ok (.astore 5, 2) := by decide +kernel
theorem dL_weigh_21 : decode cL_weigh 21 = .ok (.iconst 2, 1) := by decide +kernel
theorem dL_weigh_22 : decode cL_weigh 22 = .ok (.ireturn, 1) := by decide +kernel
theorem dL_weigh_23 : decode cL_weigh 23 = .ok (.astore 5, 2) := by decide +kernel
theorem dL_weigh_25 : decode cL_weigh 25 = .ok (.iconst 3, 1) := by decide +kernel
theorem dL_weigh_26 : decode cL_weigh 26 = .ok (.ireturn, 1) := by decide +kernel
theorem dL_weigh_27 : decode cL_weigh 27 = .ok (.iconst 0, 1) := by decide +kernel
theorem dL_weigh_28 : decode cL_weigh 28 = .ok (.ireturn, 1) := by decide +kernel
theorem dL_tilt_0 : decode cL_tilt 0 = .ok (.aload 4, 2) := by decide +kernel
theorem dL_tilt_2 : decode cL_tilt 2 = .ok (.iconst 0, 1) := by decide +kernel
theorem dL_tilt_3 : decode cL_tilt 3 = .ok (.aload_n 0, 1) := by decide +kernel
theorem dL_tilt_4 : decode cL_tilt 4 = .ok (.iload_n 1, 1) := by decide +kernel
theorem dL_tilt_5 : decode cL_tilt 5 = .ok (.iload_n 2, 1) := by decide +kernel
theorem dL_tilt_6 : decode cL_tilt 6 = .ok (.iload_n 3, 1) := by decide +kernel
theorem dL_tilt_7 : decode cL_tilt 7 = .ok (.invokevirtual 26, 3) := by decide +kernel
theorem dL_tilt_10 : decode cL_tilt 10 = .ok (.i2l, 1) := by decide +kernel
theorem dL_tilt_11 : decode cL_tilt 11 = .ok (.lastore, 1) := by decide +kernel
theorem dL_tilt_12 : decode cL_tilt 12 = .ok (.goto 15, 3) := by decide +kernel
theorem dL_tilt_15 : decode cL_tilt 15 = .ok (.astore 5, 2) := by decide +kernel
theorem dL_tilt_17 : decode cL_tilt 17 = .ok (.iconst 1, 1) := by decide +kernel
theorem dL_tilt_18 : decode cL_tilt 18 = .ok (.ireturn, 1) := by decide +kernel
theorem dL_tilt_19 : decode cL_tilt 19 = .ok (.astore 5, 2) := by decide +kernel
theorem dL_tilt_21 : decode cL_tilt 21 = .ok (.iconst 2, 1) := by decide +kernel
theorem dL_tilt_22 : decode cL_tilt 22 = .ok (.ireturn, 1) := by decide +kernel
theorem dL_tilt_23 : decode cL_tilt 23 = .ok (.astore 5, 2) := by decide +kernel
theorem dL_tilt_25 : decode cL_tilt 25 = .ok (.iconst 3, 1) := by decide +kernel
theorem dL_tilt_26 : decode cL_tilt 26 = .ok (.ireturn, 1) := by decide +kernel
theorem dL_tilt_27 : decode cL_tilt 27 = .ok (.iconst 0, 1) := by decide +kernel
theorem dL_tilt_28 : decode cL_tilt 28 = .ok (.ireturn, 1) := by decide +kernel
theorem dL_tiltAll_0 : decode cL_tiltAll 0 = .ok (.aload_n 2, 1) := by decide +kernel
theorem dL_tiltAll_1 : decode cL_tiltAll 1 = .ok (.iconst 0, 1) := by decide +kernel
theorem dL_tiltAll_2 : decode cL_tiltAll 2 = .ok (.aload_n 0, 1) := by decide +kernel
theorem dL_tiltAll_3 : decode cL_tiltAll 3 = .ok (.iload_n 1, 1) := by decide +kernel
theorem dL_tiltAll_4 : decode cL_tiltAll 4 = .ok (.invokevirtual 29, 3) := by decide +kernel
theorem dL_tiltAll_7 : decode cL_tiltAll 7 = .ok (.i2l, 1) := by decide +kernel
theorem dL_tiltAll_8 : decode cL_tiltAll 8 = .ok (.lastore, 1) := by decide +kernel
theorem dL_tiltAll_9 : decode cL_tiltAll 9 = .ok (.goto 6, 3) := by decide +kernel
theorem dL_tiltAll_12 : decode cL_tiltAll 12 = .ok (.astore_n 3, 1) := by decide +kernel
theorem dL_tiltAll_13 : decode cL_tiltAll 13 = .ok (.iconst 1, 1) := by decide +kernel
theorem dL_tiltAll_14 : decode cL_tiltAll 14 = .ok (.ireturn, 1) := by decide +kernel
theorem dL_tiltAll_15 : decode cL_tiltAll 15 = .ok (.iconst 0, 1) := by decide +kernel
theorem dL_tiltAll_16 : decode cL_tiltAll 16 = .ok (.ireturn, 1) := by decide +kernel
theorem dL_limit_0 : decode cL_limit 0 = .ok (.aload_n 2, 1) := by decide +kernel
theorem dL_limit_1 : decode cL_limit 1 = .ok (.iconst 0, 1) := by decide +kernel
theorem dL_limit_2 : decode cL_limit 2 = .ok (.aload_n 0, 1) := by decide +kernel
theorem dL_limit_3 : decode cL_limit 3 = .ok (.iload_n 1, 1) := by decide +kernel
theorem dL_limit_4 : decode cL_limit 4 = .ok (.invokevirtual 32, 3) := by decide +kernel
theorem dL_limit_7 : decode cL_limit 7 = .ok (.i2l, 1) := by decide +kernel
theorem dL_limit_8 : decode cL_limit 8 = .ok (.lastore, 1) := by decide +kernel
theorem dL_limit_9 : decode cL_limit 9 = .ok (.goto 6, 3) := by decide +kernel
theorem dL_limit_12 : decode cL_limit 12 = .ok (.astore_n 3, 1) := by decide +kernel
theorem dL_limit_13 : decode cL_limit 13 = .ok (.iconst 1, 1) := by decide +kernel
theorem dL_limit_14 : decode cL_limit 14 = .ok (.ireturn, 1) := by decide +kernel
theorem dL_limit_15 : decode cL_limit 15 = .ok (.iconst 0, 1) := by decide +kernel
theorem dL_limit_16 : decode cL_limit 16 = .ok (.ireturn, 1) := by decide +kernel
theorem dL_seed_0 : decode cL_seed 0 = .ok (.aload_n 2, 1) := by decide +kernel
theorem dL_seed_1 : decode cL_seed 1 = .ok (.iconst 0, 1) := by decide +kernel
theorem dL_seed_2 : decode cL_seed 2 = .ok (.aload_n 0, 1) := by decide +kernel
theorem dL_seed_3 : decode cL_seed 3 = .ok (.iload_n 1, 1) := by decide +kernel
theorem dL_seed_4 : decode cL_seed 4 = .ok (.invokevirtual 35, 3) := by decide +kernel
theorem dL_seed_7 : decode cL_seed 7 = .ok (.i2l, 1) := by decide +kernel
theorem dL_seed_8 : decode cL_seed 8 = .ok (.lastore, 1) := by decide +kernel
theorem dL_seed_9 : decode cL_seed 9 = .ok (.goto 6, 3) := by decide +kernel
theorem dL_seed_12 : decode cL_seed 12 = .ok (.astore_n 3, 1) := by decide +kernel
theorem dL_seed_13 : decode cL_seed 13 = .ok (.iconst 1, 1) := by decide +kernel
theorem dL_seed_14 : decode cL_seed 14 = .ok (.ireturn, 1) := by decide +kernel
theorem dL_seed_15 : decode cL_seed 15 = .ok (.iconst 0, 1) := by decide +kernel
theorem dL_seed_16 : decode cL_seed 16 = .ok (.ireturn, 1) := by decide +kernel
theorem dL_draw_0 : decode cL_draw 0 = .ok (.aload_n 2, 1) := by decide +kernel
theorem dL_draw_1 : decode cL_draw 1 = .ok (.iconst 0, 1) := by decide +kernel
theorem dL_draw_2 : decode cL_draw 2 = .ok (.aload_n 0, 1) := by decide +kernel
theorem dL_draw_3 : decode cL_draw 3 = .ok (.iload_n 1, 1) := by decide +kernel
theorem dL_draw_4 : decode cL_draw 4 = .ok (.invokevirtual 38, 3) := by decide +kernel
theorem dL_draw_7 : decode cL_draw 7 = .ok (.i2l, 1) := by decide +kernel
theorem dL_draw_8 : decode cL_draw 8 = .ok (.lastore, 1) := by decide +kernel
theorem dL_draw_9 : decode cL_draw 9 = .ok (.goto 9, 3) := by decide +kernel
theorem dL_draw_12 : decode cL_draw 12 = .ok (.astore_n 3, 1) := by decide +kernel
theorem dL_draw_13 : decode cL_draw 13 = .ok (.iconst 1, 1) := by decide +kernel
theorem dL_draw_14 : decode cL_draw 14 = .ok (.ireturn, 1) := by decide +kernel
theorem dL_draw_15 : decode cL_draw 15 = .ok (.astore_n 3, 1) := by decide +kernel
theorem dL_draw_16 : decode cL_draw 16 = .ok (.iconst 2, 1) := by decide +kernel
theorem dL_draw_17 : decode cL_draw 17 = .ok (.ireturn, 1) := by decide +kernel
theorem dL_draw_18 : decode cL_draw 18 = .ok (.iconst 0, 1) := by decide +kernel
theorem dL_draw_19 : decode cL_draw 19 = .ok (.ireturn, 1) := by decide +kernel
theorem dL_append_0 : decode cL_append 0 = .ok (.aload_n 2, 1) := by decide +kernel
theorem dL_append_1 : decode cL_append 1 = .ok (.iconst 0, 1) := by decide +kernel
theorem dL_append_2 : decode cL_append 2 = .ok (.aload_n 0, 1) := by decide +kernel
theorem dL_append_3 : decode cL_append 3 = .ok (.iload_n 1, 1) := by decide +kernel
theorem dL_append_4 : decode cL_append 4 = .ok (.invokevirtual 41, 3) := by decide +kernel
theorem dL_append_7 : decode cL_append 7 = .ok (.i2l, 1) := by decide +kernel
theorem dL_append_8 : decode cL_append 8 = .ok (.lastore, 1) := by decide +kernel
theorem dL_append_9 : decode cL_append 9 = .ok (.goto 9, 3) := by decide +kernel
theorem dL_append_12 : decode cL_append 12 = .ok (.astore_n 3, 1) := by decide +kernel
theorem dL_append_13 : decode cL_append 13 = .ok (.iconst 1, 1) := by decide +kernel
theorem dL_append_14 : decode cL_append 14 = .ok (.ireturn, 1) := by decide +kernel
theorem dL_append_15 : decode cL_append 15 = .ok (.astore_n 3, 1) := by decide +kernel
theorem dL_append_16 : decode cL_append 16 = .ok (.iconst 2, 1) := by decide +kernel
theorem dL_append_17 : decode cL_append 17 = .ok (.ireturn, 1) := by decide +kernel
theorem dL_append_18 : decode cL_append 18 = .ok (.iconst 0, 1) := by decide +kernel
theorem dL_append_19 : decode cL_append 19 = .ok (.ireturn, 1) := by decide +kernel
theorem dL_addAll_0 : decode cL_addAll 0 = .ok (.aload_n 1, 1) := by decide +kernel
theorem dL_addAll_1 : decode cL_addAll 1 = .ok (.iconst 0, 1) := by decide +kernel
theorem dL_addAll_2 : decode cL_addAll 2 = .ok (.aload_n 0, 1) := by decide +kernel
theorem dL_addAll_3 : decode cL_addAll 3 = .ok (.invokevirtual 44, 3) := by decide +kernel
theorem dL_addAll_6 : decode cL_addAll 6 = .ok (.i2l, 1) := by decide +kernel
theorem dL_addAll_7 : decode cL_addAll 7 = .ok (.lastore, 1) := by decide +kernel
theorem dL_addAll_8 : decode cL_addAll 8 = .ok (.goto 9, 3) := by decide +kernel
theorem dL_addAll_11 : decode cL_addAll 11 = .ok (.astore_n 2, 1) := by decide +kernel
theorem dL_addAll_12 : decode cL_addAll 12 = .ok (.iconst 1, 1) := by decide +kernel
theorem dL_addAll_13 : decode cL_addAll 13 = .ok (.ireturn, 1) := by decide +kernel
theorem dL_addAll_14 : decode cL_addAll 14 = .ok (.astore_n 2, 1) := by decide +kernel
theorem dL_addAll_15 : decode cL_addAll 15 = .ok (.iconst 2, 1) := by decide +kernel
theorem dL_addAll_16 : decode cL_addAll 16 = .ok (.ireturn, 1) := by decide +kernel
theorem dL_addAll_17 : decode cL_addAll 17 = .ok (.iconst 0, 1) := by decide +kernel
theorem dL_addAll_18 : decode cL_addAll 18 = .ok (.ireturn, 1) := by decide +kernel
theorem dL_undo_0 : decode cL_undo 0 = .ok (.aload_n 1, 1) := by decide +kernel
theorem dL_undo_1 : decode cL_undo 1 = .ok (.iconst 0, 1) := by decide +kernel
theorem dL_undo_2 : decode cL_undo 2 = .ok (.aload_n 0, 1) := by decide +kernel
theorem dL_undo_3 : decode cL_undo 3 = .ok (.invokevirtual 48, 3) := by decide +kernel
theorem dL_undo_6 : decode cL_undo 6 = .ok (.i2l, 1) := by decide +kernel
theorem dL_undo_7 : decode cL_undo 7 = .ok (.lastore, 1) := by decide +kernel
theorem dL_undo_8 : decode cL_undo 8 = .ok (.goto 6, 3) := by decide +kernel
theorem dL_undo_11 : decode cL_undo 11 = .ok (.astore_n 2, 1) := by decide +kernel
theorem dL_undo_12 : decode cL_undo 12 = .ok (.iconst 1, 1) := by decide +kernel
theorem dL_undo_13 : decode cL_undo 13 = .ok (.ireturn, 1) := by decide +kernel
theorem dL_undo_14 : decode cL_undo 14 = .ok (.iconst 0, 1) := by decide +kernel
theorem dL_undo_15 : decode cL_undo 15 = .ok (.ireturn, 1) := by decide +kernel
theorem dL_part_0 : decode cL_part 0 = .ok (.aload_n 3, 1) := by decide +kernel
theorem dL_part_1 : decode cL_part 1 = .ok (.iconst 0, 1) := by decide +kernel
theorem dL_part_2 : decode cL_part 2 = .ok (.aload_n 0, 1) := by decide +kernel
theorem dL_part_3 : decode cL_part 3 = .ok (.iload_n 1, 1) := by decide +kernel
theorem dL_part_4 : decode cL_part 4 = .ok (.iload_n 2, 1) := by decide +kernel
theorem dL_part_5 : decode cL_part 5 = .ok (.invokevirtual 51, 3) := by decide +kernel
theorem dL_part_8 : decode cL_part 8 = .ok (.i2l, 1) := by decide +kernel
theorem dL_part_9 : decode cL_part 9 = .ok (.lastore, 1) := by decide +kernel
theorem dL_part_10 : decode cL_part 10 = .ok (.goto 11, 3) := by decide +kernel
theorem dL_part_13 : decode cL_part 13 = .ok (.astore 4, 2) := by decide +kernel
theorem dL_part_15 : decode cL_part 15 = .ok (.iconst 1, 1) := by decide +kernel
theorem dL_part_16 : decode cL_part 16 = .ok (.ireturn, 1) := by decide +kernel
theorem dL_part_17 : decode cL_part 17 = .ok (.astore 4, 2) := by decide +kernel
theorem dL_part_19 : decode cL_part 19 = .ok (.iconst 2, 1) := by decide +kernel
theorem dL_part_20 : decode cL_part 20 = .ok (.ireturn, 1) := by decide +kernel
theorem dL_part_21 : decode cL_part 21 = .ok (.iconst 0, 1) := by decide +kernel
theorem dL_part_22 : decode cL_part 22 = .ok (.ireturn, 1) := by decide +kernel
theorem dL_weight_0 : decode cL_weight 0 = .ok (.aload 4, 2) := by decide +kernel
theorem dL_weight_2 : decode cL_weight 2 = .ok (.iconst 0, 1) := by decide +kernel
theorem dL_weight_3 : decode cL_weight 3 = .ok (.aload_n 0, 1) := by decide +kernel
theorem dL_weight_4 : decode cL_weight 4 = .ok (.iload_n 1, 1) := by decide +kernel
theorem dL_weight_5 : decode cL_weight 5 = .ok (.iload_n 2, 1) := by decide +kernel
theorem dL_weight_6 : decode cL_weight 6 = .ok (.iload_n 3, 1) := by decide +kernel
theorem dL_weight_7 : decode cL_weight 7 = .ok (.invokevirtual 55, 3) := by decide +kernel
theorem dL_weight_10 : decode cL_weight 10 = .ok (.i2l, 1) := by decide +kernel
theorem dL_weight_11 : decode cL_weight 11 = .ok (.lastore, 1) := by decide +kernel
theorem dL_weight_12 : decode cL_weight 12 = .ok (.goto 7, 3) := by decide +kernel
theorem dL_weight_15 : decode cL_weight 15 = .ok (.astore 5, 2) := by decide +kernel
theorem dL_weight_17 : decode cL_weight 17 = .ok (.iconst 1, 1) := by decide +kernel
theorem dL_weight_18 : decode cL_weight 18 = .ok (.ireturn, 1) := by decide +kernel
theorem dL_weight_19 : decode cL_weight 19 = .ok (.iconst 0, 1) := by decide +kernel
theorem dL_weight_20 : decode cL_weight 20 = .ok (.ireturn, 1) := by decide +kernel
theorem dL_ways_0 : decode cL_ways 0 = .ok (.aload_n 3, 1) := by decide +kernel
theorem dL_ways_1 : decode cL_ways 1 = .ok (.iconst 0, 1) := by decide +kernel
theorem dL_ways_2 : decode cL_ways 2 = .ok (.aload_n 0, 1) := by decide +kernel
theorem dL_ways_3 : decode cL_ways 3 = .ok (.iload_n 1, 1) := by decide +kernel
theorem dL_ways_4 : decode cL_ways 4 = .ok (.iload_n 2, 1) := by decide +kernel
theorem dL_ways_5 : decode cL_ways 5 = .ok (.invokevirtual 59, 3) := by decide +kernel
theorem dL_ways_8 : decode cL_ways 8 = .ok (.lastore, 1) := by decide +kernel
theorem dL_ways_9 : decode cL_ways 9 = .ok (.goto 7, 3) := by decide +kernel
theorem dL_ways_12 : decode cL_ways 12 = .ok (.astore 4, 2) := by decide +kernel
theorem dL_ways_14 : decode cL_ways 14 = .ok (.iconst 1, 1) := by decide +kernel
theorem dL_ways_15 : decode cL_ways 15 = .ok (.ireturn, 1) := by decide +kernel
theorem dL_ways_16 : decode cL_ways 16 = .ok (.iconst 0, 1) := by decide +kernel
theorem dL_ways_17 : decode cL_ways 17 = .ok (.ireturn, 1) := by decide +kernel
theorem dL_likeliest_0 : decode cL_likeliest 0 = .ok (.aload_n 2, 1) := by decide +kernel
theorem dL_likeliest_1 : decode cL_likeliest 1 = .ok (.iconst 0, 1) := by decide +kernel
theorem dL_likeliest_2 : decode cL_likeliest 2 = .ok (.aload_n 0, 1) := by decide +kernel
theorem dL_likeliest_3 : decode cL_likeliest 3 = .ok (.iload_n 1, 1) := by decide +kernel
theorem dL_likeliest_4 : decode cL_likeliest 4 = .ok (.invokevirtual 63, 3) := by decide +kernel
theorem dL_likeliest_7 : decode cL_likeliest 7 = .ok (.i2l, 1) := by decide +kernel
theorem dL_likeliest_8 : decode cL_likeliest 8 = .ok (.lastore, 1) := by decide +kernel
theorem dL_likeliest_9 : decode cL_likeliest 9 = .ok (.goto 6, 3) := by decide +kernel
theorem dL_likeliest_12 : decode cL_likeliest 12 = .ok (.astore_n 3, 1) := by decide +kernel
theorem dL_likeliest_13 : decode cL_likeliest 13 = .ok (.iconst 1, 1) := by decide +kernel
theorem dL_likeliest_14 : decode cL_likeliest 14 = .ok (.ireturn, 1) := by decide +kernel
theorem dL_likeliest_15 : decode cL_likeliest 15 = .ok (.iconst 0, 1) := by decide +kernel
theorem dL_likeliest_16 : decode cL_likeliest 16 = .ok (.ireturn, 1) := by decide +kernel
theorem dL_count_0 : decode cL_count 0 = .ok (.aload_n 2, 1) := by decide +kernel
theorem dL_count_1 : decode cL_count 1 = .ok (.iconst 0, 1) := by decide +kernel
theorem dL_count_2 : decode cL_count 2 = .ok (.aload_n 0, 1) := by decide +kernel
theorem dL_count_3 : decode cL_count 3 = .ok (.iload_n 1, 1) := by decide +kernel
theorem dL_count_4 : decode cL_count 4 = .ok (.invokevirtual 66, 3) := by decide +kernel
theorem dL_count_7 : decode cL_count 7 = .ok (.i2l, 1) := by decide +kernel
theorem dL_count_8 : decode cL_count 8 = .ok (.lastore, 1) := by decide +kernel
theorem dL_count_9 : decode cL_count 9 = .ok (.goto 6, 3) := by decide +kernel
theorem dL_count_12 : decode cL_count 12 = .ok (.astore_n 3, 1) := by decide +kernel
theorem dL_count_13 : decode cL_count 13 = .ok (.iconst 1, 1) := by decide +kernel
theorem dL_count_14 : decode cL_count 14 = .ok (.ireturn, 1) := by decide +kernel
theorem dL_count_15 : decode cL_count 15 = .ok (.iconst 0, 1) := by decide +kernel
theorem dL_count_16 : decode cL_count 16 = .ok (.ireturn, 1) := by decide +kernel
theorem dL_measure_0 : decode cL_measure 0 = .ok (.aload_n 2, 1) := by decide +kernel
theorem dL_measure_1 : decode cL_measure 1 = .ok (.iconst 0, 1) := by decide +kernel
theorem dL_measure_2 : decode cL_measure 2 = .ok (.aload_n 0, 1) := by decide +kernel
theorem dL_measure_3 : decode cL_measure 3 = .ok (.iload_n 1, 1) := by decide +kernel
theorem dL_measure_4 : decode cL_measure 4 = .ok (.invokevirtual 69, 3) := by decide +kernel
theorem dL_measure_7 : decode cL_measure 7 = .ok (.dastore, 1) := by decide +kernel
theorem dL_measure_8 : decode cL_measure 8 = .ok (.goto 6, 3) := by decide +kernel
theorem dL_measure_11 : decode cL_measure 11 = .ok (.astore_n 3, 1) := by decide +kernel
theorem dL_measure_12 : decode cL_measure 12 = .ok (.iconst 1, 1) := by decide +kernel
theorem dL_measure_13 : decode cL_measure 13 = .ok (.ireturn, 1) := by decide +kernel
theorem dL_measure_14 : decode cL_measure 14 = .ok (.iconst 0, 1) := by decide +kernel
theorem dL_measure_15 : decode cL_measure 15 = .ok (.ireturn, 1) := by decide +kernel
theorem dL_ifLimit_0 : decode cL_ifLimit 0 = .ok (.aload_n 2, 1) := by decide +kernel
theorem dL_ifLimit_1 : decode cL_ifLimit 1 = .ok (.iconst 0, 1) := by decide +kernel
theorem dL_ifLimit_2 : decode cL_ifLimit 2 = .ok (.aload_n 0, 1) := by decide +kernel
theorem dL_ifLimit_3 : decode cL_ifLimit 3 = .ok (.iload_n 1, 1) := by decide +kernel
theorem dL_ifLimit_4 : decode cL_ifLimit 4 = .ok (.invokevirtual 73, 3) := by decide +kernel
theorem dL_ifLimit_7 : decode cL_ifLimit 7 = .ok (.dastore, 1) := by decide +kernel
theorem dL_ifLimit_8 : decode cL_ifLimit 8 = .ok (.goto 6, 3) := by decide +kernel
theorem dL_ifLimit_11 : decode cL_ifLimit 11 = .ok (.astore_n 3, 1) := by decide +kernel
theorem dL_ifLimit_12 : decode cL_ifLimit 12 = .ok (.iconst 1, 1) := by decide +kernel
theorem dL_ifLimit_13 : decode cL_ifLimit 13 = .ok (.ireturn, 1) := by decide +kernel
theorem dL_ifLimit_14 : decode cL_ifLimit 14 = .ok (.iconst 0, 1) := by decide +kernel
theorem dL_ifLimit_15 : decode cL_ifLimit 15 = .ok (.ireturn, 1) := by decide +kernel
theorem dL_limitFor_0 : decode cL_limitFor 0 = .ok (.aload_n 2, 1) := by decide +kernel
theorem dL_limitFor_1 : decode cL_limitFor 1 = .ok (.iconst 0, 1) := by decide +kernel
theorem dL_limitFor_2 : decode cL_limitFor 2 = .ok (.aload_n 0, 1) := by decide +kernel
theorem dL_limitFor_3 : decode cL_limitFor 3 = .ok (.iload_n 1, 1) := by decide +kernel
theorem dL_limitFor_4 : decode cL_limitFor 4 = .ok (.invokevirtual 76, 3) := by decide +kernel
theorem dL_limitFor_7 : decode cL_limitFor 7 = .ok (.i2l, 1) := by decide +kernel
theorem dL_limitFor_8 : decode cL_limitFor 8 = .ok (.lastore, 1) := by decide +kernel
theorem dL_limitFor_9 : decode cL_limitFor 9 = .ok (.goto 6, 3) := by decide +kernel
theorem dL_limitFor_12 : decode cL_limitFor 12 = .ok (.astore_n 3, 1) := by decide +kernel
theorem dL_limitFor_13 : decode cL_limitFor 13 = .ok (.iconst 1, 1) := by decide +kernel
theorem dL_limitFor_14 : decode cL_limitFor 14 = .ok (.ireturn, 1) := by decide +kernel
theorem dL_limitFor_15 : decode cL_limitFor 15 = .ok (.iconst 0, 1) := by decide +kernel
theorem dL_limitFor_16 : decode cL_limitFor 16 = .ok (.ireturn, 1) := by decide +kernel
theorem dL_law_0 : decode cL_law 0 = .ok (.new 8, 3) := by decide +kernel
theorem dL_law_3 : decode cL_law 3 = .ok (.dup, 1) := by decide +kernel
theorem dL_law_4 : decode cL_law 4 = .ok (.invokespecial 79, 3) := by decide +kernel
theorem dL_law_7 : decode cL_law 7 = .ok (.astore_n 1, 1) := by decide +kernel
theorem dL_law_8 : decode cL_law 8 = .ok (.new 80, 3) := by decide +kernel
theorem dL_law_11 : decode cL_law 11 = .ok (.dup, 1) := by decide +kernel
theorem dL_law_12 : decode cL_law 12 = .ok (.invokespecial 82, 3) := by decide +kernel
theorem dL_law_15 : decode cL_law 15 = .ok (.astore_n 2, 1) := by decide +kernel
theorem dL_law_16 : decode cL_law 16 = .ok (.iconst 1, 1) := by decide +kernel
theorem dL_law_17 : decode cL_law 17 = .ok (.newarray .long, 2) := by decide +kernel
theorem dL_law_19 : decode cL_law 19 = .ok (.astore_n 3, 1) := by decide +kernel
theorem dL_law_20 : decode cL_law 20 = .ok (.iconst 1, 1) := by decide +kernel
theorem dL_law_21 : decode cL_law 21 = .ok (.newarray .double, 2) := by decide +kernel
theorem dL_law_23 : decode cL_law 23 = .ok (.astore 4, 2) := by decide +kernel
theorem dL_law_25 : decode cL_law 25 = .ok (.iconst 0, 1) := by decide +kernel
theorem dL_law_26 : decode cL_law 26 = .ok (.istore 5, 2) := by decide +kernel
theorem dL_law_28 : decode cL_law 28 = .ok (.iload 5, 2) := by decide +kernel
theorem dL_law_30 : decode cL_law 30 = .ok (.aload_n 0, 1) := by decide +kernel
theorem dL_law_31 : decode cL_law 31 = .ok (.arraylength, 1) := by decide +kernel
theorem dL_law_32 : decode cL_law 32 = .ok (.iconst 4, 1) := by decide +kernel
theorem dL_law_33 : decode cL_law 33 = .ok (.isub, 1) := by decide +kernel
theorem dL_law_34 : decode cL_law 34 = .ok (.if_icmp .gt 1476, 3) := by decide +kernel
theorem dL_law_37 : decode cL_law 37 = .ok (.aload_n 0, 1) := by decide +kernel
theorem dL_law_38 : decode cL_law 38 = .ok (.iload 5, 2) := by decide +kernel
theorem dL_law_40 : decode cL_law 40 = .ok (.iaload, 1) := by decide +kernel
theorem dL_law_41 : decode cL_law 41 = .ok (.bipush 31, 2) := by decide +kernel
theorem dL_law_43 : decode cL_law 43 = .ok (.iand, 1) := by decide +kernel
theorem dL_law_44 : decode cL_law 44 = .ok (.tableswitch 1460 0 24 #[116, 172, 228, 308, 388, 444, 500, 556, 612, 625, 681, 694, 707, 751, 795, 863, 959, 1042, 1098, 1154, 1231, 1308, 1364, 1433, 1446], 116) := by decide +kernel
theorem dL_law_160 : decode cL_law 160 = .ok (.aload_n 1, 1) := by decide +kernel
theorem dL_law_161 : decode cL_law 161 = .ok (.aload_n 0, 1) := by decide +kernel
theorem dL_law_162 : decode cL_law 162 = .ok (.iload 5, 2) := by decide +kernel
theorem dL_law_164 : decode cL_law 164 = .ok (.iconst 1, 1) := by decide +kernel
theorem dL_law_165 : decode cL_law 165 = .ok (.iadd, 1) := by decide +kernel
theorem dL_law_166 : decode cL_law 166 = .ok (.iaload, 1) := by decide +kernel
theorem dL_law_167 : decode cL_law 167 = .ok (.aload_n 3, 1) := by decide +kernel
theorem dL_law_168 : decode cL_law 168 = .ok (.invokestatic 83, 3) := by decide +kernel
theorem dL_law_171 : decode cL_law 171 = .ok (.istore 6, 2) := by decide +kernel
theorem dL_law_173 : decode cL_law 173 = .ok (.aload_n 2, 1) := by decide +kernel
theorem dL_law_174 : decode cL_law 174 = .ok (.aload_n 0, 1) := by decide +kernel
theorem dL_law_175 : decode cL_law 175 = .ok (.iload 5, 2) := by decide +kernel
theorem dL_law_177 : decode cL_law 177 = .ok (.iconst 1, 1) := by decide +kernel
theorem dL_law_178 : decode cL_law 178 = .ok (.iadd, 1) := by decide +kernel
theorem dL_law_179 : decode cL_law 179 = .ok (.iaload, 1) := by decide +kernel
theorem dL_law_180 : decode cL_law 180 = .ok (.invokevirtual 88, 3) := by decide +kernel
theorem dL_law_183 : decode cL_law 183 = .ok (.istore 7, 2) := by decide +kernel
theorem dL_law_185 : decode cL_law 185 = .ok (.aload_n 2, 1) := by decide +kernel
theorem dL_law_186 : decode cL_law 186 = .ok (.invokevirtual 89, 3) := by decide +kernel
theorem dL_law_189 : decode cL_law 189 = .ok (.iload 6, 2) := by decide +kernel
theorem dL_law_191 : decode cL_law 191 = .ok (.if_icmp .eq 5, 3) := by decide +kernel
theorem dL_law_194 : decode cL_law 194 = .ok (.iconst 0, 1) := by decide +kernel
theorem dL_law_195 : decode cL_law 195 = .ok (.ireturn, 1) := by decide +kernel
theorem dL_law_196 : decode cL_law 196 = .ok (.iload 6, 2) := by decide +kernel
theorem dL_law_198 : decode cL_law 198 = .ok (.ifCond .ne 15, 3) := by decide +kernel
theorem dL_law_201 : decode cL_law 201 = .ok (.aload_n 3, 1) := by decide +kernel
theorem dL_law_202 : decode cL_law 202 = .ok (.iconst 0, 1) := by decide +kernel
theorem dL_law_203 : decode cL_law 203 = .ok (.laload, 1) := by decide +kernel
theorem dL_law_204 : decode cL_law 204 = .ok (.iload 7, 2) := by decide +kernel
theorem dL_law_206 : decode cL_law 206 = .ok (.i2l, 1) := by decide +kernel
theorem dL_law_207 : decode cL_law 207 = .ok (.lcmp, 1) := by decide +kernel
theorem dL_law_208 : decode cL_law 208 = .ok (.ifCond .eq 5, 3) := by decide +kernel
theorem dL_law_211 : decode cL_law 211 = .ok (.iconst 0, 1) := by decide +kernel
theorem dL_law_212 : decode cL_law 212 = .ok (.ireturn, 1) := by decide +kernel
theorem dL_law_213 : decode cL_law 213 = .ok (.goto 1291, 3) := by decide +kernel
theorem dL_law_216 : decode cL_law 216 = .ok (.aload_n 1, 1) := by decide +kernel
theorem dL_law_217 : decode cL_law 217 = .ok (.aload_n 0, 1) := by decide +kernel
theorem dL_law_218 : decode cL_law 218 = .ok (.iload 5, 2) := by decide +kernel
theorem dL_law_220 : decode cL_law 220 = .ok (.iconst 1, 1) := by decide +kernel
theorem dL_law_221 : decode cL_law 221 = .ok (.iadd, 1) := by decide +kernel
theorem dL_law_222 : decode cL_law 222 = .ok (.iaload, 1) := by decide +kernel
theorem dL_law_223 : decode cL_law 223 = .ok (.aload_n 3, 1) := by decide +kernel
theorem dL_law_224 : decode cL_law 224 = .ok (.invokestatic 92, 3) := by decide +kernel
theorem dL_law_227 : decode cL_law 227 = .ok (.istore 6, 2) := by decide +kernel
theorem dL_law_229 : decode cL_law 229 = .ok (.aload_n 2, 1) := by decide +kernel
theorem dL_law_230 : decode cL_law 230 = .ok (.aload_n 0, 1) := by decide +kernel
theorem dL_law_231 : decode cL_law 231 = .ok (.iload 5, 2) := by decide +kernel
theorem dL_law_233 : decode cL_law 233 = .ok (.iconst 1, 1) := by decide +kernel
theorem dL_law_234 : decode cL_law 234 = .ok (.iadd, 1) := by decide +kernel
theorem dL_law_235 : decode cL_law 235 = .ok (.iaload, 1) := by decide +kernel
theorem dL_law_236 : decode cL_law 236 = .ok (.invokevirtual 94, 3) := by decide +kernel
theorem dL_law_239 : decode cL_law 239 = .ok (.istore 7, 2) := by decide +kernel
theorem dL_law_241 : decode cL_law 241 = .ok (.aload_n 2, 1) := by decide +kernel
theorem dL_law_242 : decode cL_law 242 = .ok (.invokevirtual 89, 3) := by decide +kernel
theorem dL_law_245 : decode cL_law 245 = .ok (.iload 6, 2) := by decide +kernel
theorem dL_law_247 : decode cL_law 247 = .ok (.if_icmp .eq 5, 3) := by decide +kernel
theorem dL_law_250 : decode cL_law 250 = .ok (.iconst 0, 1) := by decide +kernel
theorem dL_law_251 : decode cL_law 251 = .ok (.ireturn, 1) := by decide +kernel
theorem dL_law_252 : decode cL_law 252 = .ok (.iload 6, 2) := by decide +kernel
theorem dL_law_254 : decode cL_law 254 = .ok (.ifCond .ne 15, 3) := by decide +kernel
theorem dL_law_257 : decode cL_law 257 = .ok (.aload_n 3, 1) := by decide +kernel
theorem dL_law_258 : decode cL_law 258 = .ok (.iconst 0, 1) := by decide +kernel
theorem dL_law_259 : decode cL_law 259 = .ok (.laload, 1) := by decide +kernel
theorem dL_law_260 : decode cL_law 260 = .ok (.iload 7, 2) := by decide +kernel
theorem dL_law_262 : decode cL_law 262 = .ok (.i2l, 1) := by decide +kernel
theorem dL_law_263 : decode cL_law 263 = .ok (.lcmp, 1) := by decide +kernel
theorem dL_law_264 : decode cL_law 264 = .ok (.ifCond .eq 5, 3) := by decide +kernel
theorem dL_law_267 : decode cL_law 267 = .ok (.iconst 0, 1) := by decide +kernel
theorem dL_law_268 : decode cL_law 268 = .ok (.ireturn, 1) := by decide +kernel
theorem dL_law_269 : decode cL_law 269 = .ok (.goto 1235, 3) := by decide +kernel
theorem dL_law_272 : decode cL_law 272 = .ok (.aload_n 1, 1) := by decide +kernel
theorem dL_law_273 : decode cL_law 273 = .ok (.aload_n 0, 1) := by decide +kernel
theorem dL_law_274 : decode cL_law 274 = .ok (.iload 5, 2) := by decide +kernel
theorem dL_law_276 : decode cL_law 276 = .ok (.iconst 1, 1) := by decide +kernel
theorem dL_law_277 : decode cL_law 277 = .ok (.iadd, 1) := by decide +kernel
theorem dL_law_278 : decode cL_law 278 = .ok (.iaload, 1) := by decide +kernel
theorem dL_law_279 : decode cL_law 279 = .ok (.aload_n 0, 1) := by decide +kernel
theorem dL_law_280 : decode cL_law 280 = .ok (.iload 5, 2) := by decide +kernel
theorem dL_law_282 : decode cL_law 282 = .ok (.iconst 2, 1) := by decide +kernel
theorem dL_law_283 : decode cL_law 283 = .ok (.iadd, 1) := by decide +kernel
theorem dL_law_284 : decode cL_law 284 = .ok (.iaload, 1) := by decide +kernel
theorem dL_law_285 : decode cL_law 285 = .ok (.aload_n 0, 1) := by decide +kernel
theorem dL_law_286 : decode cL_law 286 = .ok (.iload 5, 2) := by decide +kernel
theorem dL_law_288 : decode cL_law 288 = .ok (.iconst 3, 1) := by decide +kernel
theorem dL_law_289 : decode cL_law 289 = .ok (.iadd, 1) := by decide +kernel
theorem dL_law_290 : decode cL_law 290 = .ok (.iaload, 1) := by decide +kernel
theorem dL_law_291 : decode cL_law 291 = .ok (.aload_n 3, 1) := by decide +kernel
theorem dL_law_292 : decode cL_law 292 = .ok (.invokestatic 95, 3) := by decide +kernel
theorem dL_law_295 : decode cL_law 295 = .ok (.istore 6, 2) := by decide +kernel
theorem dL_law_297 : decode cL_law 297 = .ok (.aload_n 2, 1) := by decide +kernel
theorem dL_law_298 : decode cL_law 298 = .ok (.aload_n 0, 1) := by decide +kernel
theorem dL_law_299 : decode cL_law 299 = .ok (.iload 5, 2) := by decide +kernel
theorem dL_law_301 : decode cL_law 301 = .ok (.iconst 1, 1) := by decide +kernel
theorem dL_law_302 : decode cL_law 302 = .ok (.iadd, 1) := by decide +kernel
theorem dL_law_303 : decode cL_law 303 = .ok (.iaload, 1) := by decide +kernel
theorem dL_law_304 : decode cL_law 304 = .ok (.aload_n 0, 1) := by decide +kernel
theorem dL_law_305 : decode cL_law 305 = .ok (.iload 5, 2) := by decide +kernel
theorem dL_law_307 : decode cL_law 307 = .ok (.iconst 2, 1) := by decide +kernel
theorem dL_law_308 : decode cL_law 308 = .ok (.iadd, 1) := by decide +kernel
theorem dL_law_309 : decode cL_law 309 = .ok (.iaload, 1) := by decide +kernel
theorem dL_law_310 : decode cL_law 310 = .ok (.aload_n 0, 1) := by decide +kernel
theorem dL_law_311 : decode cL_law 311 = .ok (.iload 5, 2) := by decide +kernel
theorem dL_law_313 : decode cL_law 313 = .ok (.iconst 3, 1) := by decide +kernel
theorem dL_law_314 : decode cL_law 314 = .ok (.iadd, 1) := by decide +kernel
theorem dL_law_315 : decode cL_law 315 = .ok (.iaload, 1) := by decide +kernel
theorem dL_law_316 : decode cL_law 316 = .ok (.invokevirtual 98, 3) := by decide +kernel
theorem dL_law_319 : decode cL_law 319 = .ok (.istore 7, 2) := by decide +kernel
theorem dL_law_321 : decode cL_law 321 = .ok (.aload_n 2, 1) := by decide +kernel
theorem dL_law_322 : decode cL_law 322 = .ok (.invokevirtual 89, 3) := by decide +kernel
theorem dL_law_325 : decode cL_law 325 = .ok (.iload 6, 2) := by decide +kernel
theorem dL_law_327 : decode cL_law 327 = .ok (.if_icmp .eq 5, 3) := by decide +kernel
theorem dL_law_330 : decode cL_law 330 = .ok (.iconst 0, 1) := by decide +kernel
theorem dL_law_331 : decode cL_law 331 = .ok (.ireturn, 1) := by decide +kernel
theorem dL_law_332 : decode cL_law 332 = .ok (.iload 6, 2) := by decide +kernel
theorem dL_law_334 : decode cL_law 334 = .ok (.ifCond .ne 15, 3) := by decide +kernel
theorem dL_law_337 : decode cL_law 337 = .ok (.aload_n 3, 1) := by decide +kernel
theorem dL_law_338 : decode cL_law 338 = .ok (.iconst 0, 1) := by decide +kernel
theorem dL_law_339 : decode cL_law 339 = .ok (.laload, 1) := by decide +kernel
theorem dL_law_340 : decode cL_law 340 = .ok (.iload 7, 2) := by decide +kernel
theorem dL_law_342 : decode cL_law 342 = .ok (.i2l, 1) := by decide +kernel
theorem dL_law_343 : decode cL_law 343 = .ok (.lcmp, 1) := by decide +kernel
theorem dL_law_344 : decode cL_law 344 = .ok (.ifCond .eq 5, 3) := by decide +kernel
theorem dL_law_347 : decode cL_law 347 = .ok (.iconst 0, 1) := by decide +kernel
theorem dL_law_348 : decode cL_law 348 = .ok (.ireturn, 1) := by decide +kernel
theorem dL_law_349 : decode cL_law 349 = .ok (.goto 1155, 3) := by decide +kernel
theorem dL_law_352 : decode cL_law 352 = .ok (.aload_n 1, 1) := by decide +kernel
theorem dL_law_353 : decode cL_law 353 = .ok (.aload_n 0, 1) := by decide +kernel
theorem dL_law_354 : decode cL_law 354 = .ok (.iload 5, 2) := by decide +kernel
theorem dL_law_356 : decode cL_law 356 = .ok (.iconst 1, 1) := by decide +kernel
theorem dL_law_357 : decode cL_law 357 = .ok (.iadd, 1) := by decide +kernel
theorem dL_law_358 : decode cL_law 358 = .ok (.iaload, 1) := by decide +kernel
theorem dL_law_359 : decode cL_law 359 = .ok (.aload_n 0, 1) := by decide +kernel
theorem dL_law_360 : decode cL_law 360 = .ok (.iload 5, 2) := by decide +kernel
theorem dL_law_362 : decode cL_law 362 = .ok (.iconst 2, 1) := by decide +kernel
theorem dL_law_363 : decode cL_law 363 = .ok (.iadd, 1) := by decide +kernel
theorem dL_law_364 : decode cL_law 364 = .ok (.iaload, 1) := by decide +kernel
theorem dL_law_365 : decode cL_law 365 = .ok (.aload_n 0, 1) := by decide +kernel
theorem dL_law_366 : decode cL_law 366 = .ok (.iload 5, 2) := by decide +kernel
theorem dL_law_368 : decode cL_law 368 = .ok (.iconst 3, 1) := by decide +kernel
theorem dL_law_369 : decode cL_law 369 = .ok (.iadd, 1) := by decide +kernel
theorem dL_law_370 : decode cL_law 370 = .ok (.iaload, 1) := by decide +kernel
theorem dL_law_371 : decode cL_law 371 = .ok (.aload_n 3, 1) := by decide +kernel
theorem dL_law_372 : decode cL_law 372 = .ok (.invokestatic 99, 3) := by decide +kernel
theorem dL_law_375 : decode cL_law 375 = .ok (.istore 6, 2) := by decide +kernel
theorem dL_law_377 : decode cL_law 377 = .ok (.aload_n 2, 1) := by decide +kernel
theorem dL_law_378 : decode cL_law 378 = .ok (.aload_n 0, 1) := by decide +kernel
theorem dL_law_379 : decode cL_law 379 = .ok (.iload 5, 2) := by decide +kernel
theorem dL_law_381 : decode cL_law 381 = .ok (.iconst 1, 1) := by decide +kernel
theorem dL_law_382 : decode cL_law 382 = .ok (.iadd, 1) := by decide +kernel
theorem dL_law_383 : decode cL_law 383 = .ok (.iaload, 1) := by decide +kernel
theorem dL_law_384 : decode cL_law 384 = .ok (.aload_n 0, 1) := by decide +kernel
theorem dL_law_385 : decode cL_law 385 = .ok (.iload 5, 2) := by decide +kernel
theorem dL_law_387 : decode cL_law 387 = .ok (.iconst 2, 1) := by decide +kernel
theorem dL_law_388 : decode cL_law 388 = .ok (.iadd, 1) := by decide +kernel
theorem dL_law_389 : decode cL_law 389 = .ok (.iaload, 1) := by decide +kernel
theorem dL_law_390 : decode cL_law 390 = .ok (.aload_n 0, 1) := by decide +kernel
theorem dL_law_391 : decode cL_law 391 = .ok (.iload 5, 2) := by decide +kernel
theorem dL_law_393 : decode cL_law 393 = .ok (.iconst 3, 1) := by decide +kernel
theorem dL_law_394 : decode cL_law 394 = .ok (.iadd, 1) := by decide +kernel
theorem dL_law_395 : decode cL_law 395 = .ok (.iaload, 1) := by decide +kernel
theorem dL_law_396 : decode cL_law 396 = .ok (.invokevirtual 101, 3) := by decide +kernel
theorem dL_law_399 : decode cL_law 399 = .ok (.istore 7, 2) := by decide +kernel
theorem dL_law_401 : decode cL_law 401 = .ok (.aload_n 2, 1) := by decide +kernel
theorem dL_law_402 : decode cL_law 402 = .ok (.invokevirtual 89, 3) := by decide +kernel
theorem dL_law_405 : decode cL_law 405 = .ok (.iload 6, 2) := by decide +kernel
theorem dL_law_407 : decode cL_law 407 = .ok (.if_icmp .eq 5, 3) := by decide +kernel
theorem dL_law_410 : decode cL_law 410 = .ok (.iconst 0, 1) := by decide +kernel
theorem dL_law_411 : decode cL_law 411 = .ok (.ireturn, 1) := by decide +kernel
theorem dL_law_412 : decode cL_law 412 = .ok (.iload 6, 2) := by decide +kernel
theorem dL_law_414 : decode cL_law 414 = .ok (.ifCond .ne 15, 3) := by decide +kernel
theorem dL_law_417 : decode cL_law 417 = .ok (.aload_n 3, 1) := by decide +kernel
theorem dL_law_418 : decode cL_law 418 = .ok (.iconst 0, 1) := by decide +kernel
theorem dL_law_419 : decode cL_law 419 = .ok (.laload, 1) := by decide +kernel
theorem dL_law_420 : decode cL_law 420 = .ok (.iload 7, 2) := by decide +kernel
theorem dL_law_422 : decode cL_law 422 = .ok (.i2l, 1) := by decide +kernel
theorem dL_law_423 : decode cL_law 423 = .ok (.lcmp, 1) := by decide +kernel
theorem dL_law_424 : decode cL_law 424 = .ok (.ifCond .eq 5, 3) := by decide +kernel
theorem dL_law_427 : decode cL_law 427 = .ok (.iconst 0, 1) := by decide +kernel
theorem dL_law_428 : decode cL_law 428 = .ok (.ireturn, 1) := by decide +kernel
theorem dL_law_429 : decode cL_law 429 = .ok (.goto 1075, 3) := by decide +kernel
theorem dL_law_432 : decode cL_law 432 = .ok (.aload_n 1, 1) := by decide +kernel
theorem dL_law_433 : decode cL_law 433 = .ok (.aload_n 0, 1) := by decide +kernel
theorem dL_law_434 : decode cL_law 434 = .ok (.iload 5, 2) := by decide +kernel
theorem dL_law_436 : decode cL_law 436 = .ok (.iconst 1, 1) := by decide +kernel
theorem dL_law_437 : decode cL_law 437 = .ok (.iadd, 1) := by decide +kernel
theorem dL_law_438 : decode cL_law 438 = .ok (.iaload, 1) := by decide +kernel
theorem dL_law_439 : decode cL_law 439 = .ok (.aload_n 3, 1) := by decide +kernel
theorem dL_law_440 : decode cL_law 440 = .ok (.invokestatic 102, 3) := by decide +kernel
theorem dL_law_443 : decode cL_law 443 = .ok (.istore 6, 2) := by decide +kernel
theorem dL_law_445 : decode cL_law 445 = .ok (.aload_n 2, 1) := by decide +kernel
theorem dL_law_446 : decode cL_law 446 = .ok (.aload_n 0, 1) := by decide +kernel
theorem dL_law_447 : decode cL_law 447 = .ok (.iload 5, 2) := by decide +kernel
theorem dL_law_449 : decode cL_law 449 = .ok (.iconst 1, 1) := by decide +kernel
theorem dL_law_450 : decode cL_law 450 = .ok (.iadd, 1) := by decide +kernel
theorem dL_law_451 : decode cL_law 451 = .ok (.iaload, 1) := by decide +kernel
theorem dL_law_452 : decode cL_law 452 = .ok (.invokevirtual 104, 3) := by decide +kernel
theorem dL_law_455 : decode cL_law 455 = .ok (.istore 7, 2) := by decide +kernel
theorem dL_law_457 : decode cL_law 457 = .ok (.aload_n 2, 1) := by decide +kernel
theorem dL_law_458 : decode cL_law 458 = .ok (.invokevirtual 89, 3) := by decide +kernel
theorem dL_law_461 : decode cL_law 461 = .ok (.iload 6, 2) := by decide +kernel
theorem dL_law_463 : decode cL_law 463 = .ok (.if_icmp .eq 5, 3) := by decide +kernel
theorem dL_law_466 : decode cL_law 466 = .ok (.iconst 0, 1) := by decide +kernel
theorem dL_law_467 : decode cL_law 467 = .ok (.ireturn, 1) := by decide +kernel
theorem dL_law_468 : decode cL_law 468 = .ok (.iload 6, 2) := by decide +kernel
theorem dL_law_470 : decode cL_law 470 = .ok (.ifCond .ne 15, 3) := by decide +kernel
theorem dL_law_473 : decode cL_law 473 = .ok (.aload_n 3, 1) := by decide +kernel
theorem dL_law_474 : decode cL_law 474 = .ok (.iconst 0, 1) := by decide +kernel
theorem dL_law_475 : decode cL_law 475 = .ok (.laload, 1) := by decide +kernel
theorem dL_law_476 : decode cL_law 476 = .ok (.iload 7, 2) := by decide +kernel
theorem dL_law_478 : decode cL_law 478 = .ok (.i2l, 1) := by decide +kernel
theorem dL_law_479 : decode cL_law 479 = .ok (.lcmp, 1) := by decide +kernel
theorem dL_law_480 : decode cL_law 480 = .ok (.ifCond .eq 5, 3) := by decide +kernel
theorem dL_law_483 : decode cL_law 483 = .ok (.iconst 0, 1) := by decide +kernel
theorem dL_law_484 : decode cL_law 484 = .ok (.ireturn, 1) := by decide +kernel
theorem dL_law_485 : decode cL_law 485 = .ok (.goto 1019, 3) := by decide +kernel
theorem dL_law_488 : decode cL_law 488 = .ok (.aload_n 1, 1) := by decide +kernel
theorem dL_law_489 : decode cL_law 489 = .ok (.aload_n 0, 1) := by decide +kernel
theorem dL_law_490 : decode cL_law 490 = .ok (.iload 5, 2) := by decide +kernel
theorem dL_law_492 : decode cL_law 492 = .ok (.iconst 1, 1) := by decide +kernel
theorem dL_law_493 : decode cL_law 493 = .ok (.iadd, 1) := by decide +kernel
theorem dL_law_494 : decode cL_law 494 = .ok (.iaload, 1) := by decide +kernel
theorem dL_law_495 : decode cL_law 495 = .ok (.aload_n 3, 1) := by decide +kernel
theorem dL_law_496 : decode cL_law 496 = .ok (.invokestatic 105, 3) := by decide +kernel
theorem dL_law_499 : decode cL_law 499 = .ok (.istore 6, 2) := by decide +kernel
theorem dL_law_501 : decode cL_law 501 = .ok (.aload_n 2, 1) := by decide +kernel
theorem dL_law_502 : decode cL_law 502 = .ok (.aload_n 0, 1) := by decide +kernel
theorem dL_law_503 : decode cL_law 503 = .ok (.iload 5, 2) := by decide +kernel
theorem dL_law_505 : decode cL_law 505 = .ok (.iconst 1, 1) := by decide +kernel
theorem dL_law_506 : decode cL_law 506 = .ok (.iadd, 1) := by decide +kernel
theorem dL_law_507 : decode cL_law 507 = .ok (.iaload, 1) := by decide +kernel
theorem dL_law_508 : decode cL_law 508 = .ok (.invokevirtual 107, 3) := by decide +kernel
theorem dL_law_511 : decode cL_law 511 = .ok (.istore 7, 2) := by decide +kernel
theorem dL_law_513 : decode cL_law 513 = .ok (.aload_n 2, 1) := by decide +kernel
theorem dL_law_514 : decode cL_law 514 = .ok (.invokevirtual 89, 3) := by decide +kernel
theorem dL_law_517 : decode cL_law 517 = .ok (.iload 6, 2) := by decide +kernel
theorem dL_law_519 : decode cL_law 519 = .ok (.if_icmp .eq 5, 3) := by decide +kernel
theorem dL_law_522 : decode cL_law 522 = .ok (.iconst 0, 1) := by decide +kernel
theorem dL_law_523 : decode cL_law 523 = .ok (.ireturn, 1) := by decide +kernel
theorem dL_law_524 : decode cL_law 524 = .ok (.iload 6, 2) := by decide +kernel
theorem dL_law_526 : decode cL_law 526 = .ok (.ifCond .ne 15, 3) := by decide +kernel
theorem dL_law_529 : decode cL_law 529 = .ok (.aload_n 3, 1) := by decide +kernel
theorem dL_law_530 : decode cL_law 530 = .ok (.iconst 0, 1) := by decide +kernel
theorem dL_law_531 : decode cL_law 531 = .ok (.laload, 1) := by decide +kernel
theorem dL_law_532 : decode cL_law 532 = .ok (.iload 7, 2) := by decide +kernel
theorem dL_law_534 : decode cL_law 534 = .ok (.i2l, 1) := by decide +kernel
theorem dL_law_535 : decode cL_law 535 = .ok (.lcmp, 1) := by decide +kernel
theorem dL_law_536 : decode cL_law 536 = .ok (.ifCond .eq 5, 3) := by decide +kernel
theorem dL_law_539 : decode cL_law 539 = .ok (.iconst 0, 1) := by decide +kernel
theorem dL_law_540 : decode cL_law 540 = .ok (.ireturn, 1) := by decide +kernel
theorem dL_law_541 : decode cL_law 541 = .ok (.goto 963, 3) := by decide +kernel
theorem dL_law_544 : decode cL_law 544 = .ok (.aload_n 1, 1) := by decide +kernel
theorem dL_law_545 : decode cL_law 545 = .ok (.aload_n 0, 1) := by decide +kernel
theorem dL_law_546 : decode cL_law 546 = .ok (.iload 5, 2) := by decide +kernel
theorem dL_law_548 : decode cL_law 548 = .ok (.iconst 1, 1) := by decide +kernel
theorem dL_law_549 : decode cL_law 549 = .ok (.iadd, 1) := by decide +kernel
theorem dL_law_550 : decode cL_law 550 = .ok (.iaload, 1) := by decide +kernel
theorem dL_law_551 : decode cL_law 551 = .ok (.aload_n 3, 1) := by decide +kernel
theorem dL_law_552 : decode cL_law 552 = .ok (.invokestatic 108, 3) := by decide +kernel
theorem dL_law_555 : decode cL_law 555 = .ok (.istore 6, 2) := by decide +kernel
theorem dL_law_557 : decode cL_law 557 = .ok (.aload_n 2, 1) := by decide +kernel
theorem dL_law_558 : decode cL_law 558 = .ok (.aload_n 0, 1) := by decide +kernel
theorem dL_law_559 : decode cL_law 559 = .ok (.iload 5, 2) := by decide +kernel
theorem dL_law_561 : decode cL_law 561 = .ok (.iconst 1, 1) := by decide +kernel
theorem dL_law_562 : decode cL_law 562 = .ok (.iadd, 1) := by decide +kernel
theorem dL_law_563 : decode cL_law 563 = .ok (.iaload, 1) := by decide +kernel
theorem dL_law_564 : decode cL_law 564 = .ok (.invokevirtual 110, 3) := by decide +kernel
theorem dL_law_567 : decode cL_law 567 = .ok (.istore 7, 2) := by decide +kernel
theorem dL_law_569 : decode cL_law 569 = .ok (.aload_n 2, 1) := by decide +kernel
theorem dL_law_570 : decode cL_law 570 = .ok (.invokevirtual 89, 3) := by decide +kernel
theorem dL_law_573 : decode cL_law 573 = .ok (.iload 6, 2) := by decide +kernel
theorem dL_law_575 : decode cL_law 575 = .ok (.if_icmp .eq 5, 3) := by decide +kernel
theorem dL_law_578 : decode cL_law 578 = .ok (.iconst 0, 1) := by decide +kernel
theorem dL_law_579 : decode cL_law 579 = .ok (.ireturn, 1) := by decide +kernel
theorem dL_law_580 : decode cL_law 580 = .ok (.iload 6, 2) := by decide +kernel
theorem dL_law_582 : decode cL_law 582 = .ok (.ifCond .ne 15, 3) := by decide +kernel
theorem dL_law_585 : decode cL_law 585 = .ok (.aload_n 3, 1) := by decide +kernel
theorem dL_law_586 : decode cL_law 586 = .ok (.iconst 0, 1) := by decide +kernel
theorem dL_law_587 : decode cL_law 587 = .ok (.laload, 1) := by decide +kernel
theorem dL_law_588 : decode cL_law 588 = .ok (.iload 7, 2) := by decide +kernel
theorem dL_law_590 : decode cL_law 590 = .ok (.i2l, 1) := by decide +kernel
theorem dL_law_591 : decode cL_law 591 = .ok (.lcmp, 1) := by decide +kernel
theorem dL_law_592 : decode cL_law 592 = .ok (.ifCond .eq 5, 3) := by decide +kernel
theorem dL_law_595 : decode cL_law 595 = .ok (.iconst 0, 1) := by decide +kernel
theorem dL_law_596 : decode cL_law 596 = .ok (.ireturn, 1) := by decide +kernel
theorem dL_law_597 : decode cL_law 597 = .ok (.goto 907, 3) := by decide +kernel
theorem dL_law_600 : decode cL_law 600 = .ok (.aload_n 1, 1) := by decide +kernel
theorem dL_law_601 : decode cL_law 601 = .ok (.aload_n 0, 1) := by decide +kernel
theorem dL_law_602 : decode cL_law 602 = .ok (.iload 5, 2) := by decide +kernel
theorem dL_law_604 : decode cL_law 604 = .ok (.iconst 1, 1) := by decide +kernel
theorem dL_law_605 : decode cL_law 605 = .ok (.iadd, 1) := by decide +kernel
theorem dL_law_606 : decode cL_law 606 = .ok (.iaload, 1) := by decide +kernel
theorem dL_law_607 : decode cL_law 607 = .ok (.aload_n 3, 1) := by decide +kernel
theorem dL_law_608 : decode cL_law 608 = .ok (.invokestatic 111, 3) := by decide +kernel
theorem dL_law_611 : decode cL_law 611 = .ok (.istore 6, 2) := by decide +kernel
theorem dL_law_613 : decode cL_law 613 = .ok (.aload_n 2, 1) := by decide +kernel
theorem dL_law_614 : decode cL_law 614 = .ok (.aload_n 0, 1) := by decide +kernel
theorem dL_law_615 : decode cL_law 615 = .ok (.iload 5, 2) := by decide +kernel
theorem dL_law_617 : decode cL_law 617 = .ok (.iconst 1, 1) := by decide +kernel
theorem dL_law_618 : decode cL_law 618 = .ok (.iadd, 1) := by decide +kernel
theorem dL_law_619 : decode cL_law 619 = .ok (.iaload, 1) := by decide +kernel
theorem dL_law_620 : decode cL_law 620 = .ok (.invokevirtual 113, 3) := by decide +kernel
theorem dL_law_623 : decode cL_law 623 = .ok (.istore 7, 2) := by decide +kernel
theorem dL_law_625 : decode cL_law 625 = .ok (.aload_n 2, 1) := by decide +kernel
theorem dL_law_626 : decode cL_law 626 = .ok (.invokevirtual 89, 3) := by decide +kernel
theorem dL_law_629 : decode cL_law 629 = .ok (.iload 6, 2) := by decide +kernel
theorem dL_law_631 : decode cL_law 631 = .ok (.if_icmp .eq 5, 3) := by decide +kernel
theorem dL_law_634 : decode cL_law 634 = .ok (.iconst 0, 1) := by decide +kernel
theorem dL_law_635 : decode cL_law 635 = .ok (.ireturn, 1) := by decide +kernel
theorem dL_law_636 : decode cL_law 636 = .ok (.iload 6, 2) := by decide +kernel
theorem dL_law_638 : decode cL_law 638 = .ok (.ifCond .ne 15, 3) := by decide +kernel
theorem dL_law_641 : decode cL_law 641 = .ok (.aload_n 3, 1) := by decide +kernel
theorem dL_law_642 : decode cL_law 642 = .ok (.iconst 0, 1) := by decide +kernel
theorem dL_law_643 : decode cL_law 643 = .ok (.laload, 1) := by decide +kernel
theorem dL_law_644 : decode cL_law 644 = .ok (.iload 7, 2) := by decide +kernel
theorem dL_law_646 : decode cL_law 646 = .ok (.i2l, 1) := by decide +kernel
theorem dL_law_647 : decode cL_law 647 = .ok (.lcmp, 1) := by decide +kernel
theorem dL_law_648 : decode cL_law 648 = .ok (.ifCond .eq 5, 3) := by decide +kernel
theorem dL_law_651 : decode cL_law 651 = .ok (.iconst 0, 1) := by decide +kernel
theorem dL_law_652 : decode cL_law 652 = .ok (.ireturn, 1) := by decide +kernel
theorem dL_law_653 : decode cL_law 653 = .ok (.goto 851, 3) := by decide +kernel
theorem dL_law_656 : decode cL_law 656 = .ok (.aload_n 1, 1) := by decide +kernel
theorem dL_law_657 : decode cL_law 657 = .ok (.invokevirtual 114, 3) := by decide +kernel
theorem dL_law_660 : decode cL_law 660 = .ok (.aload_n 2, 1) := by decide +kernel
theorem dL_law_661 : decode cL_law 661 = .ok (.invokevirtual 117, 3) := by decide +kernel
theorem dL_law_664 : decode cL_law 664 = .ok (.if_icmp .eq 840, 3) := by decide +kernel
theorem dL_law_667 : decode cL_law 667 = .ok (.iconst 0, 1) := by decide +kernel
theorem dL_law_668 : decode cL_law 668 = .ok (.ireturn, 1) := by decide +kernel
theorem dL_law_669 : decode cL_law 669 = .ok (.aload_n 1, 1) := by decide +kernel
theorem dL_law_670 : decode cL_law 670 = .ok (.aload_n 0, 1) := by decide +kernel
theorem dL_law_671 : decode cL_law 671 = .ok (.iload 5, 2) := by decide +kernel
theorem dL_law_673 : decode cL_law 673 = .ok (.iconst 1, 1) := by decide +kernel
theorem dL_law_674 : decode cL_law 674 = .ok (.iadd, 1) := by decide +kernel
theorem dL_law_675 : decode cL_law 675 = .ok (.iaload, 1) := by decide +kernel
theorem dL_law_676 : decode cL_law 676 = .ok (.aload_n 3, 1) := by decide +kernel
theorem dL_law_677 : decode cL_law 677 = .ok (.invokestatic 118, 3) := by decide +kernel
theorem dL_law_680 : decode cL_law 680 = .ok (.istore 6, 2) := by decide +kernel
theorem dL_law_682 : decode cL_law 682 = .ok (.aload_n 2, 1) := by decide +kernel
theorem dL_law_683 : decode cL_law 683 = .ok (.aload_n 0, 1) := by decide +kernel
theorem dL_law_684 : decode cL_law 684 = .ok (.iload 5, 2) := by decide +kernel
theorem dL_law_686 : decode cL_law 686 = .ok (.iconst 1, 1) := by decide +kernel
theorem dL_law_687 : decode cL_law 687 = .ok (.iadd, 1) := by decide +kernel
theorem dL_law_688 : decode cL_law 688 = .ok (.iaload, 1) := by decide +kernel
theorem dL_law_689 : decode cL_law 689 = .ok (.invokevirtual 120, 3) := by decide +kernel
theorem dL_law_692 : decode cL_law 692 = .ok (.istore 7, 2) := by decide +kernel
theorem dL_law_694 : decode cL_law 694 = .ok (.aload_n 2, 1) := by decide +kernel
theorem dL_law_695 : decode cL_law 695 = .ok (.invokevirtual 89, 3) := by decide +kernel
theorem dL_law_698 : decode cL_law 698 = .ok (.iload 6, 2) := by decide +kernel
theorem dL_law_700 : decode cL_law 700 = .ok (.if_icmp .eq 5, 3) := by decide +kernel
theorem dL_law_703 : decode cL_law 703 = .ok (.iconst 0, 1) := by decide +kernel
theorem dL_law_704 : decode cL_law 704 = .ok (.ireturn, 1) := by decide +kernel
theorem dL_law_705 : decode cL_law 705 = .ok (.iload 6, 2) := by decide +kernel
theorem dL_law_707 : decode cL_law 707 = .ok (.ifCond .ne 15, 3) := by decide +kernel
theorem dL_law_710 : decode cL_law 710 = .ok (.aload_n 3, 1) := by decide +kernel
theorem dL_law_711 : decode cL_law 711 = .ok (.iconst 0, 1) := by decide +kernel
theorem dL_law_712 : decode cL_law 712 = .ok (.laload, 1) := by decide +kernel
theorem dL_law_713 : decode cL_law 713 = .ok (.iload 7, 2) := by decide +kernel
theorem dL_law_715 : decode cL_law 715 = .ok (.i2l, 1) := by decide +kernel
theorem dL_law_716 : decode cL_law 716 = .ok (.lcmp, 1) := by decide +kernel
theorem dL_law_717 : decode cL_law 717 = .ok (.ifCond .eq 5, 3) := by decide +kernel
theorem dL_law_720 : decode cL_law 720 = .ok (.iconst 0, 1) := by decide +kernel
theorem dL_law_721 : decode cL_law 721 = .ok (.ireturn, 1) := by decide +kernel
theorem dL_law_722 : decode cL_law 722 = .ok (.goto 782, 3) := by decide +kernel
theorem dL_law_725 : decode cL_law 725 = .ok (.aload_n 1, 1) := by decide +kernel
theorem dL_law_726 : decode cL_law 726 = .ok (.invokevirtual 121, 3) := by decide +kernel
theorem dL_law_729 : decode cL_law 729 = .ok (.aload_n 2, 1) := by decide +kernel
theorem dL_law_730 : decode cL_law 730 = .ok (.invokevirtual 124, 3) := by decide +kernel
theorem dL_law_733 : decode cL_law 733 = .ok (.if_icmp .eq 771, 3) := by decide +kernel
theorem dL_law_736 : decode cL_law 736 = .ok (.iconst 0, 1) := by decide +kernel
theorem dL_law_737 : decode cL_law 737 = .ok (.ireturn, 1) := by decide +kernel
theorem dL_law_738 : decode cL_law 738 = .ok (.aload_n 1, 1) := by decide +kernel
theorem dL_law_739 : decode cL_law 739 = .ok (.invokevirtual 125, 3) := by decide +kernel
theorem dL_law_742 : decode cL_law 742 = .ok (.aload_n 2, 1) := by decide +kernel
theorem dL_law_743 : decode cL_law 743 = .ok (.invokevirtual 128, 3) := by decide +kernel
theorem dL_law_746 : decode cL_law 746 = .ok (.if_icmp .eq 758, 3) := by decide +kernel
theorem dL_law_749 : decode cL_law 749 = .ok (.iconst 0, 1) := by decide +kernel
theorem dL_law_750 : decode cL_law 750 = .ok (.ireturn, 1) := by decide +kernel
theorem dL_law_751 : decode cL_law 751 = .ok (.aload_n 1, 1) := by decide +kernel
theorem dL_law_752 : decode cL_law 752 = .ok (.aload_n 3, 1) := by decide +kernel
theorem dL_law_753 : decode cL_law 753 = .ok (.invokestatic 129, 3) := by decide +kernel
theorem dL_law_756 : decode cL_law 756 = .ok (.istore 6, 2) := by decide +kernel
theorem dL_law_758 : decode cL_law 758 = .ok (.aload_n 2, 1) := by decide +kernel
theorem dL_law_759 : decode cL_law 759 = .ok (.invokevirtual 132, 3) := by decide +kernel
theorem dL_law_762 : decode cL_law 762 = .ok (.istore 7, 2) := by decide +kernel
theorem dL_law_764 : decode cL_law 764 = .ok (.aload_n 2, 1) := by decide +kernel
theorem dL_law_765 : decode cL_law 765 = .ok (.invokevirtual 89, 3) := by decide +kernel
theorem dL_law_768 : decode cL_law 768 = .ok (.iload 6, 2) := by decide +kernel
theorem dL_law_770 : decode cL_law 770 = .ok (.if_icmp .eq 5, 3) := by decide +kernel
theorem dL_law_773 : decode cL_law 773 = .ok (.iconst 0, 1) := by decide +kernel
theorem dL_law_774 : decode cL_law 774 = .ok (.ireturn, 1) := by decide +kernel
theorem dL_law_775 : decode cL_law 775 = .ok (.iload 6, 2) := by decide +kernel
theorem dL_law_777 : decode cL_law 777 = .ok (.ifCond .ne 15, 3) := by decide +kernel
theorem dL_law_780 : decode cL_law 780 = .ok (.aload_n 3, 1) := by decide +kernel
theorem dL_law_781 : decode cL_law 781 = .ok (.iconst 0, 1) := by decide +kernel
theorem dL_law_782 : decode cL_law 782 = .ok (.laload, 1) := by decide +kernel
theorem dL_law_783 : decode cL_law 783 = .ok (.iload 7, 2) := by decide +kernel
theorem dL_law_785 : decode cL_law 785 = .ok (.i2l, 1) := by decide +kernel
theorem dL_law_786 : decode cL_law 786 = .ok (.lcmp, 1) := by decide +kernel
theorem dL_law_787 : decode cL_law 787 = .ok (.ifCond .eq 5, 3) := by decide +kernel
theorem dL_law_790 : decode cL_law 790 = .ok (.iconst 0, 1) := by decide +kernel
theorem dL_law_791 : decode cL_law 791 = .ok (.ireturn, 1) := by decide +kernel
theorem dL_law_792 : decode cL_law 792 = .ok (.goto 712, 3) := by decide +kernel
theorem dL_law_795 : decode cL_law 795 = .ok (.aload_n 1, 1) := by decide +kernel
theorem dL_law_796 : decode cL_law 796 = .ok (.aload_n 3, 1) := by decide +kernel
theorem dL_law_797 : decode cL_law 797 = .ok (.invokestatic 133, 3) := by decide +kernel
theorem dL_law_800 : decode cL_law 800 = .ok (.istore 6, 2) := by decide +kernel
theorem dL_law_802 : decode cL_law 802 = .ok (.aload_n 2, 1) := by decide +kernel
theorem dL_law_803 : decode cL_law 803 = .ok (.invokevirtual 135, 3) := by decide +kernel
theorem dL_law_806 : decode cL_law 806 = .ok (.istore 7, 2) := by decide +kernel
theorem dL_law_808 : decode cL_law 808 = .ok (.aload_n 2, 1) := by decide +kernel
theorem dL_law_809 : decode cL_law 809 = .ok (.invokevirtual 89, 3) := by decide +kernel
theorem dL_law_812 : decode cL_law 812 = .ok (.iload 6, 2) := by decide +kernel
theorem dL_law_814 : decode cL_law 814 = .ok (.if_icmp .eq 5, 3) := by decide +kernel
theorem dL_law_817 : decode cL_law 817 = .ok (.iconst 0, 1) := by decide +kernel
theorem dL_law_818 : decode cL_law 818 = .ok (.ireturn, 1) := by decide +kernel
theorem dL_law_819 : decode cL_law 819 = .ok (.iload 6, 2) := by decide +kernel
theorem dL_law_821 : decode cL_law 821 = .ok (.ifCond .ne 15, 3) := by decide +kernel
theorem dL_law_824 : decode cL_law 824 = .ok (.aload_n 3, 1) := by decide +kernel
theorem dL_law_825 : decode cL_law 825 = .ok (.iconst 0, 1) := by decide +kernel
theorem dL_law_826 : decode cL_law 826 = .ok (.laload, 1) := by decide +kernel
theorem dL_law_827 : decode cL_law 827 = .ok (.iload 7, 2) := by decide +kernel
theorem dL_law_829 : decode cL_law 829 = .ok (.i2l, 1) := by decide +kernel
theorem dL_law_830 : decode cL_law 830 = .ok (.lcmp, 1) := by decide +kernel
theorem dL_law_831 : decode cL_law 831 = .ok (.ifCond .eq 5, 3) := by decide +kernel
theorem dL_law_834 : decode cL_law 834 = .ok (.iconst 0, 1) := by decide +kernel
theorem dL_law_835 : decode cL_law 835 = .ok (.ireturn, 1) := by decide +kernel
theorem dL_law_836 : decode cL_law 836 = .ok (.goto 668, 3) := by decide +kernel
theorem dL_law_839 : decode cL_law 839 = .ok (.aload_n 1, 1) := by decide +kernel
theorem dL_law_840 : decode cL_law 840 = .ok (.aload_n 0, 1) := by decide +kernel
theorem dL_law_841 : decode cL_law 841 = .ok (.iload 5, 2) := by decide +kernel
theorem dL_law_843 : decode cL_law 843 = .ok (.iconst 1, 1) := by decide +kernel
theorem dL_law_844 : decode cL_law 844 = .ok (.iadd, 1) := by decide +kernel
theorem dL_law_845 : decode cL_law 845 = .ok (.iaload, 1) := by decide +kernel
theorem dL_law_846 : decode cL_law 846 = .ok (.aload_n 0, 1) := by decide +kernel
theorem dL_law_847 : decode cL_law 847 = .ok (.iload 5, 2) := by decide +kernel
theorem dL_law_849 : decode cL_law 849 = .ok (.iconst 2, 1) := by decide +kernel
theorem dL_law_850 : decode cL_law 850 = .ok (.iadd, 1) := by decide +kernel
theorem dL_law_851 : decode cL_law 851 = .ok (.iaload, 1) := by decide +kernel
theorem dL_law_852 : decode cL_law 852 = .ok (.aload_n 3, 1) := by decide +kernel
theorem dL_law_853 : decode cL_law 853 = .ok (.invokestatic 136, 3) := by decide +kernel
theorem dL_law_856 : decode cL_law 856 = .ok (.istore 6, 2) := by decide +kernel
theorem dL_law_858 : decode cL_law 858 = .ok (.aload_n 2, 1) := by decide +kernel
theorem dL_law_859 : decode cL_law 859 = .ok (.aload_n 0, 1) := by decide +kernel
theorem dL_law_860 : decode cL_law 860 = .ok (.iload 5, 2) := by decide +kernel
theorem dL_law_862 : decode cL_law 862 = .ok (.iconst 1, 1) := by decide +kernel
theorem dL_law_863 : decode cL_law 863 = .ok (.iadd, 1) := by decide +kernel
theorem dL_law_864 : decode cL_law 864 = .ok (.iaload, 1) := by decide +kernel
theorem dL_law_865 : decode cL_law 865 = .ok (.aload_n 0, 1) := by decide +kernel
theorem dL_law_866 : decode cL_law 866 = .ok (.iload 5, 2) := by decide +kernel
theorem dL_law_868 : decode cL_law 868 = .ok (.iconst 2, 1) := by decide +kernel
theorem dL_law_869 : decode cL_law 869 = .ok (.iadd, 1) := by decide +kernel
theorem dL_law_870 : decode cL_law 870 = .ok (.iaload, 1) := by decide +kernel
theorem dL_law_871 : decode cL_law 871 = .ok (.invokevirtual 139, 3) := by decide +kernel
theorem dL_law_874 : decode cL_law 874 = .ok (.istore 7, 2) := by decide +kernel
theorem dL_law_876 : decode cL_law 876 = .ok (.aload_n 2, 1) := by decide +kernel
theorem dL_law_877 : decode cL_law 877 = .ok (.invokevirtual 89, 3) := by decide +kernel
theorem dL_law_880 : decode cL_law 880 = .ok (.iload 6, 2) := by decide +kernel
theorem dL_law_882 : decode cL_law 882 = .ok (.if_icmp .eq 5, 3) := by decide +kernel
theorem dL_law_885 : decode cL_law 885 = .ok (.iconst 0, 1) := by decide +kernel
theorem dL_law_886 : decode cL_law 886 = .ok (.ireturn, 1) := by decide +kernel
theorem dL_law_887 : decode cL_law 887 = .ok (.iload 6, 2) := by decide +kernel
theorem dL_law_889 : decode cL_law 889 = .ok (.ifCond .ne 15, 3) := by decide +kernel
theorem dL_law_892 : decode cL_law 892 = .ok (.aload_n 3, 1) := by decide +kernel
theorem dL_law_893 : decode cL_law 893 = .ok (.iconst 0, 1) := by decide +kernel
theorem dL_law_894 : decode cL_law 894 = .ok (.laload, 1) := by decide +kernel
theorem dL_law_895 : decode cL_law 895 = .ok (.iload 7, 2) := by decide +kernel
theorem dL_law_897 : decode cL_law 897 = .ok (.i2l, 1) := by decide +kernel
theorem dL_law_898 : decode cL_law 898 = .ok (.lcmp, 1) := by decide +kernel
theorem dL_law_899 : decode cL_law 899 = .ok (.ifCond .eq 5, 3) := by decide +kernel
theorem dL_law_902 : decode cL_law 902 = .ok (.iconst 0, 1) := by decide +kernel
theorem dL_law_903 : decode cL_law 903 = .ok (.ireturn, 1) := by decide +kernel
theorem dL_law_904 : decode cL_law 904 = .ok (.goto 600, 3) := by decide +kernel
theorem dL_law_907 : decode cL_law 907 = .ok (.aload_n 1, 1) := by decide +kernel
theorem dL_law_908 : decode cL_law 908 = .ok (.aload_n 0, 1) := by decide +kernel
theorem dL_law_909 : decode cL_law 909 = .ok (.iload 5, 2) := by decide +kernel
theorem dL_law_911 : decode cL_law 911 = .ok (.iconst 1, 1) := by decide +kernel
theorem dL_law_912 : decode cL_law 912 = .ok (.iadd, 1) := by decide +kernel
theorem dL_law_913 : decode cL_law 913 = .ok (.iaload, 1) := by decide +kernel
theorem dL_law_914 : decode cL_law 914 = .ok (.aload_n 0, 1) := by decide +kernel
theorem dL_law_915 : decode cL_law 915 = .ok (.iload 5, 2) := by decide +kernel
theorem dL_law_917 : decode cL_law 917 = .ok (.iconst 2, 1) := by decide +kernel
theorem dL_law_918 : decode cL_law 918 = .ok (.iadd, 1) := by decide +kernel
theorem dL_law_919 : decode cL_law 919 = .ok (.iaload, 1) := by decide +kernel
theorem dL_law_920 : decode cL_law 920 = .ok (.aload_n 0, 1) := by decide +kernel
theorem dL_law_921 : decode cL_law 921 = .ok (.iload 5, 2) := by decide +kernel
theorem dL_law_923 : decode cL_law 923 = .ok (.iconst 3, 1) := by decide +kernel
theorem dL_law_924 : decode cL_law 924 = .ok (.iadd, 1) := by decide +kernel
theorem dL_law_925 : decode cL_law 925 = .ok (.iaload, 1) := by decide +kernel
theorem dL_law_926 : decode cL_law 926 = .ok (.ifCond .eq 7, 3) := by decide +kernel
theorem dL_law_929 : decode cL_law 929 = .ok (.iconst 1, 1) := by decide +kernel
theorem dL_law_930 : decode cL_law 930 = .ok (.goto 4, 3) := by decide +kernel
theorem dL_law_933 : decode cL_law 933 = .ok (.iconst 0, 1) := by decide +kernel
theorem dL_law_934 : decode cL_law 934 = .ok (.aload_n 3, 1) := by decide +kernel
theorem dL_law_935 : decode cL_law 935 = .ok (.invokestatic 140, 3) := by decide +kernel
theorem dL_law_938 : decode cL_law 938 = .ok (.istore 6, 2) := by decide +kernel
theorem dL_law_940 : decode cL_law 940 = .ok (.aload_n 2, 1) := by decide +kernel
theorem dL_law_941 : decode cL_law 941 = .ok (.aload_n 0, 1) := by decide +kernel
theorem dL_law_942 : decode cL_law 942 = .ok (.iload 5, 2) := by decide +kernel
theorem dL_law_944 : decode cL_law 944 = .ok (.iconst 1, 1) := by decide +kernel
theorem dL_law_945 : decode cL_law 945 = .ok (.iadd, 1) := by decide +kernel
theorem dL_law_946 : decode cL_law 946 = .ok (.iaload, 1) := by decide +kernel
theorem dL_law_947 : decode cL_law 947 = .ok (.aload_n 0, 1) := by decide +kernel
theorem dL_law_948 : decode cL_law 948 = .ok (.iload 5, 2) := by decide +kernel
theorem dL_law_950 : decode cL_law 950 = .ok (.iconst 2, 1) := by decide +kernel
theorem dL_law_951 : decode cL_law 951 = .ok (.iadd, 1) := by decide +kernel
theorem dL_law_952 : decode cL_law 952 = .ok (.iaload, 1) := by decide +kernel
theorem dL_law_953 : decode cL_law 953 = .ok (.aload_n 0, 1) := by decide +kernel
theorem dL_law_954 : decode cL_law 954 = .ok (.iload 5, 2) := by decide +kernel
theorem dL_law_956 : decode cL_law 956 = .ok (.iconst 3, 1) := by decide +kernel
theorem dL_law_957 : decode cL_law 957 = .ok (.iadd, 1) := by decide +kernel
theorem dL_law_958 : decode cL_law 958 = .ok (.iaload, 1) := by decide +kernel
theorem dL_law_959 : decode cL_law 959 = .ok (.ifCond .eq 7, 3) := by decide +kernel
theorem dL_law_962 : decode cL_law 962 = .ok (.iconst 1, 1) := by decide +kernel
theorem dL_law_963 : decode cL_law 963 = .ok (.goto 4, 3) := by decide +kernel
theorem dL_law_966 : decode cL_law 966 = .ok (.iconst 0, 1) := by decide +kernel
theorem dL_law_967 : decode cL_law 967 = .ok (.invokevirtual 143, 3) := by decide +kernel
theorem dL_law_970 : decode cL_law 970 = .ok (.istore 7, 2) := by decide +kernel
theorem dL_law_972 : decode cL_law 972 = .ok (.aload_n 2, 1) := by decide +kernel
theorem dL_law_973 : decode cL_law 973 = .ok (.invokevirtual 89, 3) := by decide +kernel
theorem dL_law_976 : decode cL_law 976 = .ok (.iload 6, 2) := by decide +kernel
theorem dL_law_978 : decode cL_law 978 = .ok (.if_icmp .eq 5, 3) := by decide +kernel
theorem dL_law_981 : decode cL_law 981 = .ok (.iconst 0, 1) := by decide +kernel
theorem dL_law_982 : decode cL_law 982 = .ok (.ireturn, 1) := by decide +kernel
theorem dL_law_983 : decode cL_law 983 = .ok (.iload 6, 2) := by decide +kernel
theorem dL_law_985 : decode cL_law 985 = .ok (.ifCond .ne 15, 3) := by decide +kernel
theorem dL_law_988 : decode cL_law 988 = .ok (.aload_n 3, 1) := by decide +kernel
theorem dL_law_989 : decode cL_law 989 = .ok (.iconst 0, 1) := by decide +kernel
theorem dL_law_990 : decode cL_law 990 = .ok (.laload, 1) := by decide +kernel
theorem dL_law_991 : decode cL_law 991 = .ok (.iload 7, 2) := by decide +kernel
theorem dL_law_993 : decode cL_law 993 = .ok (.i2l, 1) := by decide +kernel
theorem dL_law_994 : decode cL_law 994 = .ok (.lcmp, 1) := by decide +kernel
theorem dL_law_995 : decode cL_law 995 = .ok (.ifCond .eq 5, 3) := by decide +kernel
theorem dL_law_998 : decode cL_law 998 = .ok (.iconst 0, 1) := by decide +kernel
theorem dL_law_999 : decode cL_law 999 = .ok (.ireturn, 1) := by decide +kernel
theorem dL_law_1000 : decode cL_law 1000 = .ok (.goto 504, 3) := by decide +kernel
theorem dL_law_1003 : decode cL_law 1003 = .ok (.aload_n 1, 1) := by decide +kernel
theorem dL_law_1004 : decode cL_law 1004 = .ok (.aload_n 0, 1) := by decide +kernel
theorem dL_law_1005 : decode cL_law 1005 = .ok (.iload 5, 2) := by decide +kernel
theorem dL_law_1007 : decode cL_law 1007 = .ok (.iconst 1, 1) := by decide +kernel
theorem dL_law_1008 : decode cL_law 1008 = .ok (.iadd, 1) := by decide +kernel
theorem dL_law_1009 : decode cL_law 1009 = .ok (.iaload, 1) := by decide +kernel
theorem dL_law_1010 : decode cL_law 1010 = .ok (.aload_n 0, 1) := by decide +kernel
theorem dL_law_1011 : decode cL_law 1011 = .ok (.iload 5, 2) := by decide +kernel
theorem dL_law_1013 : decode cL_law 1013 = .ok (.iconst 2, 1) := by decide +kernel
theorem dL_law_1014 : decode cL_law 1014 = .ok (.iadd, 1) := by decide +kernel
theorem dL_law_1015 : decode cL_law 1015 = .ok (.iaload, 1) := by decide +kernel
theorem dL_law_1016 : decode cL_law 1016 = .ok (.ifCond .eq 7, 3) := by decide +kernel
theorem dL_law_1019 : decode cL_law 1019 = .ok (.iconst 1, 1) := by decide +kernel
theorem dL_law_1020 : decode cL_law 1020 = .ok (.goto 4, 3) := by decide +kernel
theorem dL_law_1023 : decode cL_law 1023 = .ok (.iconst 0, 1) := by decide +kernel
theorem dL_law_1024 : decode cL_law 1024 = .ok (.aload_n 3, 1) := by decide +kernel
theorem dL_law_1025 : decode cL_law 1025 = .ok (.invokestatic 144, 3) := by decide +kernel
theorem dL_law_1028 : decode cL_law 1028 = .ok (.istore 6, 2) := by decide +kernel
theorem dL_law_1030 : decode cL_law 1030 = .ok (.aload_n 2, 1) := by decide +kernel
theorem dL_law_1031 : decode cL_law 1031 = .ok (.aload_n 0, 1) := by decide +kernel
theorem dL_law_1032 : decode cL_law 1032 = .ok (.iload 5, 2) := by decide +kernel
theorem dL_law_1034 : decode cL_law 1034 = .ok (.iconst 1, 1) := by decide +kernel
theorem dL_law_1035 : decode cL_law 1035 = .ok (.iadd, 1) := by decide +kernel
theorem dL_law_1036 : decode cL_law 1036 = .ok (.iaload, 1) := by decide +kernel
theorem dL_law_1037 : decode cL_law 1037 = .ok (.aload_n 0, 1) := by decide +kernel
theorem dL_law_1038 : decode cL_law 1038 = .ok (.iload 5, 2) := by decide +kernel
theorem dL_law_1040 : decode cL_law 1040 = .ok (.iconst 2, 1) := by decide +kernel
theorem dL_law_1041 : decode cL_law 1041 = .ok (.iadd, 1) := by decide +kernel
theorem dL_law_1042 : decode cL_law 1042 = .ok (.iaload, 1) := by decide +kernel
theorem dL_law_1043 : decode cL_law 1043 = .ok (.ifCond .eq 7, 3) := by decide +kernel
theorem dL_law_1046 : decode cL_law 1046 = .ok (.iconst 1, 1) := by decide +kernel
theorem dL_law_1047 : decode cL_law 1047 = .ok (.goto 4, 3) := by decide +kernel
theorem dL_law_1050 : decode cL_law 1050 = .ok (.iconst 0, 1) := by decide +kernel
theorem dL_law_1051 : decode cL_law 1051 = .ok (.invokevirtual 147, 3) := by decide +kernel
theorem dL_law_1054 : decode cL_law 1054 = .ok (.lstore 7, 2) := by decide +kernel
theorem dL_law_1056 : decode cL_law 1056 = .ok (.aload_n 2, 1) := by decide +kernel
theorem dL_law_1057 : decode cL_law 1057 = .ok (.invokevirtual 89, 3) := by decide +kernel
theorem dL_law_1060 : decode cL_law 1060 = .ok (.iload 6, 2) := by decide +kernel
theorem dL_law_1062 : decode cL_law 1062 = .ok (.if_icmp .eq 5, 3) := by decide +kernel
theorem dL_law_1065 : decode cL_law 1065 = .ok (.iconst 0, 1) := by decide +kernel
theorem dL_law_1066 : decode cL_law 1066 = .ok (.ireturn, 1) := by decide +kernel
theorem dL_law_1067 : decode cL_law 1067 = .ok (.iload 6, 2) := by decide +kernel
theorem dL_law_1069 : decode cL_law 1069 = .ok (.ifCond .ne 14, 3) := by decide +kernel
theorem dL_law_1072 : decode cL_law 1072 = .ok (.aload_n 3, 1) := by decide +kernel
theorem dL_law_1073 : decode cL_law 1073 = .ok (.iconst 0, 1) := by decide +kernel
theorem dL_law_1074 : decode cL_law 1074 = .ok (.laload, 1) := by decide +kernel
theorem dL_law_1075 : decode cL_law 1075 = .ok (.lload 7, 2) := by decide +kernel
theorem dL_law_1077 : decode cL_law 1077 = .ok (.lcmp, 1) := by decide +kernel
theorem dL_law_1078 : decode cL_law 1078 = .ok (.ifCond .eq 5, 3) := by decide +kernel
theorem dL_law_1081 : decode cL_law 1081 = .ok (.iconst 0, 1) := by decide +kernel
theorem dL_law_1082 : decode cL_law 1082 = .ok (.ireturn, 1) := by decide +kernel
theorem dL_law_1083 : decode cL_law 1083 = .ok (.goto 421, 3) := by decide +kernel
theorem dL_law_1086 : decode cL_law 1086 = .ok (.aload_n 1, 1) := by decide +kernel
theorem dL_law_1087 : decode cL_law 1087 = .ok (.aload_n 0, 1) := by decide +kernel
theorem dL_law_1088 : decode cL_law 1088 = .ok (.iload 5, 2) := by decide +kernel
theorem dL_law_1090 : decode cL_law 1090 = .ok (.iconst 1, 1) := by decide +kernel
theorem dL_law_1091 : decode cL_law 1091 = .ok (.iadd, 1) := by decide +kernel
theorem dL_law_1092 : decode cL_law 1092 = .ok (.iaload, 1) := by decide +kernel
theorem dL_law_1093 : decode cL_law 1093 = .ok (.aload_n 3, 1) := by decide +kernel
theorem dL_law_1094 : decode cL_law 1094 = .ok (.invokestatic 148, 3) := by decide +kernel
theorem dL_law_1097 : decode cL_law 1097 = .ok (.istore 6, 2) := by decide +kernel
theorem dL_law_1099 : decode cL_law 1099 = .ok (.aload_n 2, 1) := by decide +kernel
theorem dL_law_1100 : decode cL_law 1100 = .ok (.aload_n 0, 1) := by decide +kernel
theorem dL_law_1101 : decode cL_law 1101 = .ok (.iload 5, 2) := by decide +kernel
theorem dL_law_1103 : decode cL_law 1103 = .ok (.iconst 1, 1) := by decide +kernel
theorem dL_law_1104 : decode cL_law 1104 = .ok (.iadd, 1) := by decide +kernel
theorem dL_law_1105 : decode cL_law 1105 = .ok (.iaload, 1) := by decide +kernel
theorem dL_law_1106 : decode cL_law 1106 = .ok (.invokevirtual 150, 3) := by decide +kernel
theorem dL_law_1109 : decode cL_law 1109 = .ok (.istore 7, 2) := by decide +kernel
theorem dL_law_1111 : decode cL_law 1111 = .ok (.aload_n 2, 1) := by decide +kernel
theorem dL_law_1112 : decode cL_law 1112 = .ok (.invokevirtual 89, 3) := by decide +kernel
theorem dL_law_1115 : decode cL_law 1115 = .ok (.iload 6, 2) := by decide +kernel
theorem dL_law_1117 : decode cL_law 1117 = .ok (.if_icmp .eq 5, 3) := by decide +kernel
theorem dL_law_1120 : decode cL_law 1120 = .ok (.iconst 0, 1) := by decide +kernel
theorem dL_law_1121 : decode cL_law 1121 = .ok (.ireturn, 1) := by decide +kernel
theorem dL_law_1122 : decode cL_law 1122 = .ok (.iload 6, 2) := by decide +kernel
theorem dL_law_1124 : decode cL_law 1124 = .ok (.ifCond .ne 15, 3) := by decide +kernel
theorem dL_law_1127 : decode cL_law 1127 = .ok (.aload_n 3, 1) := by decide +kernel
theorem dL_law_1128 : decode cL_law 1128 = .ok (.iconst 0, 1) := by decide +kernel
theorem dL_law_1129 : decode cL_law 1129 = .ok (.laload, 1) := by decide +kernel
theorem dL_law_1130 : decode cL_law 1130 = .ok (.iload 7, 2) := by decide +kernel
theorem dL_law_1132 : decode cL_law 1132 = .ok (.i2l, 1) := by decide +kernel
theorem dL_law_1133 : decode cL_law 1133 = .ok (.lcmp, 1) := by decide +kernel
theorem dL_law_1134 : decode cL_law 1134 = .ok (.ifCond .eq 5, 3) := by decide +kernel
theorem dL_law_1137 : decode cL_law 1137 = .ok (.iconst 0, 1) := by decide +kernel
theorem dL_law_1138 : decode cL_law 1138 = .ok (.ireturn, 1) := by decide +kernel
theorem dL_law_1139 : decode cL_law 1139 = .ok (.goto 365, 3) := by decide +kernel
theorem dL_law_1142 : decode cL_law 1142 = .ok (.aload_n 1, 1) := by decide +kernel
theorem dL_law_1143 : decode cL_law 1143 = .ok (.aload_n 0, 1) := by decide +kernel
theorem dL_law_1144 : decode cL_law 1144 = .ok (.iload 5, 2) := by decide +kernel
theorem dL_law_1146 : decode cL_law 1146 = .ok (.iconst 1, 1) := by decide +kernel
theorem dL_law_1147 : decode cL_law 1147 = .ok (.iadd, 1) := by decide +kernel
theorem dL_law_1148 : decode cL_law 1148 = .ok (.iaload, 1) := by decide +kernel
theorem dL_law_1149 : decode cL_law 1149 = .ok (.aload_n 3, 1) := by decide +kernel
theorem dL_law_1150 : decode cL_law 1150 = .ok (.invokestatic 151, 3) := by decide +kernel
theorem dL_law_1153 : decode cL_law 1153 = .ok (.istore 6, 2) := by decide +kernel
theorem dL_law_1155 : decode cL_law 1155 = .ok (.aload_n 2, 1) := by decide +kernel
theorem dL_law_1156 : decode cL_law 1156 = .ok (.aload_n 0, 1) := by decide +kernel
theorem dL_law_1157 : decode cL_law 1157 = .ok (.iload 5, 2) := by decide +kernel
theorem dL_law_1159 : decode cL_law 1159 = .ok (.iconst 1, 1) := by decide +kernel
theorem dL_law_1160 : decode cL_law 1160 = .ok (.iadd, 1) := by decide +kernel
theorem dL_law_1161 : decode cL_law 1161 = .ok (.iaload, 1) := by decide +kernel
theorem dL_law_1162 : decode cL_law 1162 = .ok (.invokevirtual 153, 3) := by decide +kernel
theorem dL_law_1165 : decode cL_law 1165 = .ok (.istore 7, 2) := by decide +kernel
theorem dL_law_1167 : decode cL_law 1167 = .ok (.aload_n 2, 1) := by decide +kernel
theorem dL_law_1168 : decode cL_law 1168 = .ok (.invokevirtual 89, 3) := by decide +kernel
theorem dL_law_1171 : decode cL_law 1171 = .ok (.iload 6, 2) := by decide +kernel
theorem dL_law_1173 : decode cL_law 1173 = .ok (.if_icmp .eq 5, 3) := by decide +kernel
theorem dL_law_1176 : decode cL_law 1176 = .ok (.iconst 0, 1) := by decide +kernel
theorem dL_law_1177 : decode cL_law 1177 = .ok (.ireturn, 1) := by decide +kernel
theorem dL_law_1178 : decode cL_law 1178 = .ok (.iload 6, 2) := by decide +kernel
theorem dL_law_1180 : decode cL_law 1180 = .ok (.ifCond .ne 15, 3) := by decide +kernel
theorem dL_law_1183 : decode cL_law 1183 = .ok (.aload_n 3, 1) := by decide +kernel
theorem dL_law_1184 : decode cL_law 1184 = .ok (.iconst 0, 1) := by decide +kernel
theorem dL_law_1185 : decode cL_law 1185 = .ok (.laload, 1) := by decide +kernel
theorem dL_law_1186 : decode cL_law 1186 = .ok (.iload 7, 2) := by decide +kernel
theorem dL_law_1188 : decode cL_law 1188 = .ok (.i2l, 1) := by decide +kernel
theorem dL_law_1189 : decode cL_law 1189 = .ok (.lcmp, 1) := by decide +kernel
theorem dL_law_1190 : decode cL_law 1190 = .ok (.ifCond .eq 5, 3) := by decide +kernel
theorem dL_law_1193 : decode cL_law 1193 = .ok (.iconst 0, 1) := by decide +kernel
theorem dL_law_1194 : decode cL_law 1194 = .ok (.ireturn, 1) := by decide +kernel
theorem dL_law_1195 : decode cL_law 1195 = .ok (.goto 309, 3) := by decide +kernel
theorem dL_law_1198 : decode cL_law 1198 = .ok (.aload_n 1, 1) := by decide +kernel
theorem dL_law_1199 : decode cL_law 1199 = .ok (.aload_n 0, 1) := by decide +kernel
theorem dL_law_1200 : decode cL_law 1200 = .ok (.iload 5, 2) := by decide +kernel
theorem dL_law_1202 : decode cL_law 1202 = .ok (.iconst 1, 1) := by decide +kernel
theorem dL_law_1203 : decode cL_law 1203 = .ok (.iadd, 1) := by decide +kernel
theorem dL_law_1204 : decode cL_law 1204 = .ok (.iaload, 1) := by decide +kernel
theorem dL_law_1205 : decode cL_law 1205 = .ok (.aload 4, 2) := by decide +kernel
theorem dL_law_1207 : decode cL_law 1207 = .ok (.invokestatic 154, 3) := by decide +kernel
theorem dL_law_1210 : decode cL_law 1210 = .ok (.istore 6, 2) := by decide +kernel
theorem dL_law_1212 : decode cL_law 1212 = .ok (.aload_n 2, 1) := by decide +kernel
theorem dL_law_1213 : decode cL_law 1213 = .ok (.aload_n 0, 1) := by decide +kernel
theorem dL_law_1214 : decode cL_law 1214 = .ok (.iload 5, 2) := by decide +kernel
theorem dL_law_1216 : decode cL_law 1216 = .ok (.iconst 1, 1) := by decide +kernel
theorem dL_law_1217 : decode cL_law 1217 = .ok (.iadd, 1) := by decide +kernel
theorem dL_law_1218 : decode cL_law 1218 = .ok (.iaload, 1) := by decide +kernel
theorem dL_law_1219 : decode cL_law 1219 = .ok (.invokevirtual 157, 3) := by decide +kernel
theorem dL_law_1222 : decode cL_law 1222 = .ok (.dstore 7, 2) := by decide +kernel
theorem dL_law_1224 : decode cL_law 1224 = .ok (.aload_n 2, 1) := by decide +kernel
theorem dL_law_1225 : decode cL_law 1225 = .ok (.invokevirtual 89, 3) := by decide +kernel
theorem dL_law_1228 : decode cL_law 1228 = .ok (.iload 6, 2) := by decide +kernel
theorem dL_law_1230 : decode cL_law 1230 = .ok (.if_icmp .eq 5, 3) := by decide +kernel
theorem dL_law_1233 : decode cL_law 1233 = .ok (.iconst 0, 1) := by decide +kernel
theorem dL_law_1234 : decode cL_law 1234 = .ok (.ireturn, 1) := by decide +kernel
theorem dL_law_1235 : decode cL_law 1235 = .ok (.iload 6, 2) := by decide +kernel
theorem dL_law_1237 : decode cL_law 1237 = .ok (.ifCond .ne 35, 3) := by decide +kernel
theorem dL_law_1240 : decode cL_law 1240 = .ok (.aload 4, 2) := by decide +kernel
theorem dL_law_1242 : decode cL_law 1242 = .ok (.iconst 0, 1) := by decide +kernel
theorem dL_law_1243 : decode cL_law 1243 = .ok (.daload, 1) := by decide +kernel
theorem dL_law_1244 : decode cL_law 1244 = .ok (.dload 7, 2) := by decide +kernel
theorem dL_law_1246 : decode cL_law 1246 = .ok (.dcmp .l, 1) := by decide +kernel
theorem dL_law_1247 : decode cL_law 1247 = .ok (.ifCond .eq 25, 3) := by decide +kernel
theorem dL_law_1250 : decode cL_law 1250 = .ok (.aload 4, 2) := by decide +kernel
theorem dL_law_1252 : decode cL_law 1252 = .ok (.iconst 0, 1) := by decide +kernel
theorem dL_law_1253 : decode cL_law 1253 = .ok (.daload, 1) := by decide +kernel
theorem dL_law_1254 : decode cL_law 1254 = .ok (.aload 4, 2) := by decide +kernel
theorem dL_law_1256 : decode cL_law 1256 = .ok (.iconst 0, 1) := by decide +kernel
theorem dL_law_1257 : decode cL_law 1257 = .ok (.daload, 1) := by decide +kernel
theorem dL_law_1258 : decode cL_law 1258 = .ok (.dcmp .l, 1) := by decide +kernel
theorem dL_law_1259 : decode cL_law 1259 = .ok (.ifCond .eq 11, 3) := by decide +kernel
theorem dL_law_1262 : decode cL_law 1262 = .ok (.dload 7, 2) := by decide +kernel
theorem dL_law_1264 : decode cL_law 1264 = .ok (.dload 7, 2) := by decide +kernel
theorem dL_law_1266 : decode cL_law 1266 = .ok (.dcmp .l, 1) := by decide +kernel
theorem dL_law_1267 : decode cL_law 1267 = .ok (.ifCond .ne 5, 3) := by decide +kernel
theorem dL_law_1270 : decode cL_law 1270 = .ok (.iconst 0, 1) := by decide +kernel
theorem dL_law_1271 : decode cL_law 1271 = .ok (.ireturn, 1) := by decide +kernel
theorem dL_law_1272 : decode cL_law 1272 = .ok (.goto 232, 3) := by decide +kernel
theorem dL_law_1275 : decode cL_law 1275 = .ok (.aload_n 1, 1) := by decide +kernel
theorem dL_law_1276 : decode cL_law 1276 = .ok (.aload_n 0, 1) := by decide +kernel
theorem dL_law_1277 : decode cL_law 1277 = .ok (.iload 5, 2) := by decide +kernel
theorem dL_law_1279 : decode cL_law 1279 = .ok (.iconst 1, 1) := by decide +kernel
theorem dL_law_1280 : decode cL_law 1280 = .ok (.iadd, 1) := by decide +kernel
theorem dL_law_1281 : decode cL_law 1281 = .ok (.iaload, 1) := by decide +kernel
theorem dL_law_1282 : decode cL_law 1282 = .ok (.aload 4, 2) := by decide +kernel
theorem dL_law_1284 : decode cL_law 1284 = .ok (.invokestatic 158, 3) := by decide +kernel
theorem dL_law_1287 : decode cL_law 1287 = .ok (.istore 6, 2) := by decide +kernel
theorem dL_law_1289 : decode cL_law 1289 = .ok (.aload_n 2, 1) := by decide +kernel
theorem dL_law_1290 : decode cL_law 1290 = .ok (.aload_n 0, 1) := by decide +kernel
theorem dL_law_1291 : decode cL_law 1291 = .ok (.iload 5, 2) := by decide +kernel
theorem dL_law_1293 : decode cL_law 1293 = .ok (.iconst 1, 1) := by decide +kernel
theorem dL_law_1294 : decode cL_law 1294 = .ok (.iadd, 1) := by decide +kernel
theorem dL_law_1295 : decode cL_law 1295 = .ok (.iaload, 1) := by decide +kernel
theorem dL_law_1296 : decode cL_law 1296 = .ok (.invokevirtual 160, 3) := by decide +kernel
theorem dL_law_1299 : decode cL_law 1299 = .ok (.dstore 7, 2) := by decide +kernel
theorem dL_law_1301 : decode cL_law 1301 = .ok (.aload_n 2, 1) := by decide +kernel
theorem dL_law_1302 : decode cL_law 1302 = .ok (.invokevirtual 89, 3) := by decide +kernel
theorem dL_law_1305 : decode cL_law 1305 = .ok (.iload 6, 2) := by decide +kernel
theorem dL_law_1307 : decode cL_law 1307 = .ok (.if_icmp .eq 5, 3) := by decide +kernel
theorem dL_law_1310 : decode cL_law 1310 = .ok (.iconst 0, 1) := by decide +kernel
theorem dL_law_1311 : decode cL_law 1311 = .ok (.ireturn, 1) := by decide +kernel
theorem dL_law_1312 : decode cL_law 1312 = .ok (.iload 6, 2) := by decide +kernel
theorem dL_law_1314 : decode cL_law 1314 = .ok (.ifCond .ne 35, 3) := by decide +kernel
theorem dL_law_1317 : decode cL_law 1317 = .ok (.aload 4, 2) := by decide +kernel
theorem dL_law_1319 : decode cL_law 1319 = .ok (.iconst 0, 1) := by decide +kernel
theorem dL_law_1320 : decode cL_law 1320 = .ok (.daload, 1) := by decide +kernel
theorem dL_law_1321 : decode cL_law 1321 = .ok (.dload 7, 2) := by decide +kernel
theorem dL_law_1323 : decode cL_law 1323 = .ok (.dcmp .l, 1) := by decide +kernel
theorem dL_law_1324 : decode cL_law 1324 = .ok (.ifCond .eq 25, 3) := by decide +kernel
theorem dL_law_1327 : decode cL_law 1327 = .ok (.aload 4, 2) := by decide +kernel
theorem dL_law_1329 : decode cL_law 1329 = .ok (.iconst 0, 1) := by decide +kernel
theorem dL_law_1330 : decode cL_law 1330 = .ok (.daload, 1) := by decide +kernel
theorem dL_law_1331 : decode cL_law 1331 = .ok (.aload 4, 2) := by decide +kernel
theorem dL_law_1333 : decode cL_law 1333 = .ok (.iconst 0, 1) := by decide +kernel
theorem dL_law_1334 : decode cL_law 1334 = .ok (.daload, 1) := by decide +kernel
theorem dL_law_1335 : decode cL_law 1335 = .ok (.dcmp .l, 1) := by decide +kernel
theorem dL_law_1336 : decode cL_law 1336 = .ok (.ifCond .eq 11, 3) := by decide +kernel
theorem dL_law_1339 : decode cL_law 1339 = .ok (.dload 7, 2) := by decide +kernel
theorem dL_law_1341 : decode cL_law 1341 = .ok (.dload 7, 2) := by decide +kernel
theorem dL_law_1343 : decode cL_law 1343 = .ok (.dcmp .l, 1) := by decide +kernel
theorem dL_law_1344 : decode cL_law 1344 = .ok (.ifCond .ne 5, 3) := by decide +kernel
theorem dL_law_1347 : decode cL_law 1347 = .ok (.iconst 0, 1) := by decide +kernel
theorem dL_law_1348 : decode cL_law 1348 = .ok (.ireturn, 1) := by decide +kernel
theorem dL_law_1349 : decode cL_law 1349 = .ok (.goto 155, 3) := by decide +kernel
theorem dL_law_1352 : decode cL_law 1352 = .ok (.aload_n 1, 1) := by decide +kernel
theorem dL_law_1353 : decode cL_law 1353 = .ok (.aload_n 0, 1) := by decide +kernel
theorem dL_law_1354 : decode cL_law 1354 = .ok (.iload 5, 2) := by decide +kernel
theorem dL_law_1356 : decode cL_law 1356 = .ok (.iconst 1, 1) := by decide +kernel
theorem dL_law_1357 : decode cL_law 1357 = .ok (.iadd, 1) := by decide +kernel
theorem dL_law_1358 : decode cL_law 1358 = .ok (.iaload, 1) := by decide +kernel
theorem dL_law_1359 : decode cL_law 1359 = .ok (.aload_n 3, 1) := by decide +kernel
theorem dL_law_1360 : decode cL_law 1360 = .ok (.invokestatic 161, 3) := by decide +kernel
theorem dL_law_1363 : decode cL_law 1363 = .ok (.istore 6, 2) := by decide +kernel
theorem dL_law_1365 : decode cL_law 1365 = .ok (.aload_n 2, 1) := by decide +kernel
theorem dL_law_1366 : decode cL_law 1366 = .ok (.aload_n 0, 1) := by decide +kernel
theorem dL_law_1367 : decode cL_law 1367 = .ok (.iload 5, 2) := by decide +kernel
theorem dL_law_1369 : decode cL_law 1369 = .ok (.iconst 1, 1) := by decide +kernel
theorem dL_law_1370 : decode cL_law 1370 = .ok (.iadd, 1) := by decide +kernel
theorem dL_law_1371 : decode cL_law 1371 = .ok (.iaload, 1) := by decide +kernel
theorem dL_law_1372 : decode cL_law 1372 = .ok (.invokevirtual 163, 3) := by decide +kernel
theorem dL_law_1375 : decode cL_law 1375 = .ok (.istore 7, 2) := by decide +kernel
theorem dL_law_1377 : decode cL_law 1377 = .ok (.aload_n 2, 1) := by decide +kernel
theorem dL_law_1378 : decode cL_law 1378 = .ok (.invokevirtual 89, 3) := by decide +kernel
theorem dL_law_1381 : decode cL_law 1381 = .ok (.iload 6, 2) := by decide +kernel
theorem dL_law_1383 : decode cL_law 1383 = .ok (.if_icmp .eq 5, 3) := by decide +kernel
theorem dL_law_1386 : decode cL_law 1386 = .ok (.iconst 0, 1) := by decide +kernel
theorem dL_law_1387 : decode cL_law 1387 = .ok (.ireturn, 1) := by decide +kernel
theorem dL_law_1388 : decode cL_law 1388 = .ok (.iload 6, 2) := by decide +kernel
theorem dL_law_1390 : decode cL_law 1390 = .ok (.ifCond .ne 15, 3) := by decide +kernel
theorem dL_law_1393 : decode cL_law 1393 = .ok (.aload_n 3, 1) := by decide +kernel
theorem dL_law_1394 : decode cL_law 1394 = .ok (.iconst 0, 1) := by decide +kernel
theorem dL_law_1395 : decode cL_law 1395 = .ok (.laload, 1) := by decide +kernel
theorem dL_law_1396 : decode cL_law 1396 = .ok (.iload 7, 2) := by decide +kernel
theorem dL_law_1398 : decode cL_law 1398 = .ok (.i2l, 1) := by decide +kernel
theorem dL_law_1399 : decode cL_law 1399 = .ok (.lcmp, 1) := by decide +kernel
theorem dL_law_1400 : decode cL_law 1400 = .ok (.ifCond .eq 5, 3) := by decide +kernel
theorem dL_law_1403 : decode cL_law 1403 = .ok (.iconst 0, 1) := by decide +kernel
theorem dL_law_1404 : decode cL_law 1404 = .ok (.ireturn, 1) := by decide +kernel
theorem dL_law_1405 : decode cL_law 1405 = .ok (.goto 99, 3) := by decide +kernel
theorem dL_law_1408 : decode cL_law 1408 = .ok (.aload_n 1, 1) := by decide +kernel
theorem dL_law_1409 : decode cL_law 1409 = .ok (.aload_n 0, 1) := by decide +kernel
theorem dL_law_1410 : decode cL_law 1410 = .ok (.iload 5, 2) := by decide +kernel
theorem dL_law_1412 : decode cL_law 1412 = .ok (.iconst 1, 1) := by decide +kernel
theorem dL_law_1413 : decode cL_law 1413 = .ok (.iadd, 1) := by decide +kernel
theorem dL_law_1414 : decode cL_law 1414 = .ok (.iaload, 1) := by decide +kernel
theorem dL_law_1415 : decode cL_law 1415 = .ok (.ifCond .eq 7, 3) := by decide +kernel
theorem dL_law_1418 : decode cL_law 1418 = .ok (.iconst 1, 1) := by decide +kernel
theorem dL_law_1419 : decode cL_law 1419 = .ok (.goto 4, 3) := by decide +kernel
theorem dL_law_1422 : decode cL_law 1422 = .ok (.iconst 0, 1) := by decide +kernel
theorem dL_law_1423 : decode cL_law 1423 = .ok (.invokevirtual 164, 3) := by decide +kernel
theorem dL_law_1426 : decode cL_law 1426 = .ok (.dstore 6, 2) := by decide +kernel
theorem dL_law_1428 : decode cL_law 1428 = .ok (.aload_n 2, 1) := by decide +kernel
theorem dL_law_1429 : decode cL_law 1429 = .ok (.aload_n 0, 1) := by decide +kernel
theorem dL_law_1430 : decode cL_law 1430 = .ok (.iload 5, 2) := by decide +kernel
theorem dL_law_1432 : decode cL_law 1432 = .ok (.iconst 1, 1) := by decide +kernel
theorem dL_law_1433 : decode cL_law 1433 = .ok (.iadd, 1) := by decide +kernel
theorem dL_law_1434 : decode cL_law 1434 = .ok (.iaload, 1) := by decide +kernel
theorem dL_law_1435 : decode cL_law 1435 = .ok (.ifCond .eq 7, 3) := by decide +kernel
theorem dL_law_1438 : decode cL_law 1438 = .ok (.iconst 1, 1) := by decide +kernel
theorem dL_law_1439 : decode cL_law 1439 = .ok (.goto 4, 3) := by decide +kernel
theorem dL_law_1442 : decode cL_law 1442 = .ok (.iconst 0, 1) := by decide +kernel
theorem dL_law_1443 : decode cL_law 1443 = .ok (.invokevirtual 168, 3) := by decide +kernel
theorem dL_law_1446 : decode cL_law 1446 = .ok (.dstore 8, 2) := by decide +kernel
theorem dL_law_1448 : decode cL_law 1448 = .ok (.dload 6, 2) := by decide +kernel
theorem dL_law_1450 : decode cL_law 1450 = .ok (.dload 8, 2) := by decide +kernel
theorem dL_law_1452 : decode cL_law 1452 = .ok (.dcmp .l, 1) := by decide +kernel
theorem dL_law_1453 : decode cL_law 1453 = .ok (.ifCond .eq 21, 3) := by decide +kernel
theorem dL_law_1456 : decode cL_law 1456 = .ok (.dload 6, 2) := by decide +kernel
theorem dL_law_1458 : decode cL_law 1458 = .ok (.dload 6, 2) := by decide +kernel
theorem dL_law_1460 : decode cL_law 1460 = .ok (.dcmp .l, 1) := by decide +kernel
theorem dL_law_1461 : decode cL_law 1461 = .ok (.ifCond .eq 11, 3) := by decide +kernel
theorem dL_law_1464 : decode cL_law 1464 = .ok (.dload 8, 2) := by decide +kernel
theorem dL_law_1466 : decode cL_law 1466 = .ok (.dload 8, 2) := by decide +kernel
theorem dL_law_1468 : decode cL_law 1468 = .ok (.dcmp .l, 1) := by decide +kernel
theorem dL_law_1469 : decode cL_law 1469 = .ok (.ifCond .ne 5, 3) := by decide +kernel
theorem dL_law_1472 : decode cL_law 1472 = .ok (.iconst 0, 1) := by decide +kernel
theorem dL_law_1473 : decode cL_law 1473 = .ok (.ireturn, 1) := by decide +kernel
theorem dL_law_1474 : decode cL_law 1474 = .ok (.goto 30, 3) := by decide +kernel
theorem dL_law_1477 : decode cL_law 1477 = .ok (.aload_n 1, 1) := by decide +kernel
theorem dL_law_1478 : decode cL_law 1478 = .ok (.invokevirtual 169, 3) := by decide +kernel
theorem dL_law_1481 : decode cL_law 1481 = .ok (.aload_n 2, 1) := by decide +kernel
theorem dL_law_1482 : decode cL_law 1482 = .ok (.invokevirtual 172, 3) := by decide +kernel
theorem dL_law_1485 : decode cL_law 1485 = .ok (.if_icmp .eq 19, 3) := by decide +kernel
theorem dL_law_1488 : decode cL_law 1488 = .ok (.iconst 0, 1) := by decide +kernel
theorem dL_law_1489 : decode cL_law 1489 = .ok (.ireturn, 1) := by decide +kernel
theorem dL_law_1490 : decode cL_law 1490 = .ok (.aload_n 1, 1) := by decide +kernel
theorem dL_law_1491 : decode cL_law 1491 = .ok (.invokevirtual 173, 3) := by decide +kernel
theorem dL_law_1494 : decode cL_law 1494 = .ok (.aload_n 2, 1) := by decide +kernel
theorem dL_law_1495 : decode cL_law 1495 = .ok (.invokevirtual 177, 3) := by decide +kernel
theorem dL_law_1498 : decode cL_law 1498 = .ok (.lcmp, 1) := by decide +kernel
theorem dL_law_1499 : decode cL_law 1499 = .ok (.ifCond .eq 5, 3) := by decide +kernel
theorem dL_law_1502 : decode cL_law 1502 = .ok (.iconst 0, 1) := by decide +kernel
theorem dL_law_1503 : decode cL_law 1503 = .ok (.ireturn, 1) := by decide +kernel
theorem dL_law_1504 : decode cL_law 1504 = .ok (.iinc 5 4, 3) := by decide +kernel
theorem dL_law_1507 : decode cL_law 1507 = .ok (.goto (-1479), 3) := by decide +kernel
theorem dL_law_1510 : decode cL_law 1510 = .ok (.iconst 1, 1) := by decide +kernel
theorem dL_law_1511 : decode cL_law 1511 = .ok (.ireturn, 1) := by decide +kernel
end
section
/-! the words, each in the list of all -/
abbrev gw : List Cond := wsL_law
theorem gw_law : ∀ w ∈ wsL_law0, w ∈ gw := fun _ h => List.mem_append_left _ (List.mem_append_left _ (List.mem_append_left _ h))
theorem gch1 : ∀ w ∈ wsL_law0_r1, w ∈ gw := fun w h => gw_law w (List.mem_append_left _ (List.mem_append_left _ (List.mem_append_left _ (List.mem_append_left _ (List.mem_append_left _ (List.mem_append_left _ (List.mem_append_left _ (List.mem_append_left _ (List.mem_append_left _ (List.mem_append_left _ (List.mem_append_left _ (List.mem_append_left _ (List.mem_append_left _ h)))))))))))))
theorem gch2 : ∀ w ∈ wsL_law0_r2, w ∈ gw := fun w h => gw_law w (List.mem_append_left _ (List.mem_append_left _ (List.mem_append_left _ (List.mem_append_left _ (List.mem_append_left _ (List.mem_append_left _ (List.mem_append_left _ (List.mem_append_left _ (List.mem_append_left _ (List.mem_append_left _ (List.mem_append_left _ (List.mem_append_left _ (List.mem_append_right _ (List.mem_append_left _ h))))))))))))))
theorem gch3 : ∀ w ∈ wsL_law0_r3, w ∈ gw := fun w h => gw_law w (List.mem_append_left _ (List.mem_append_left _ (List.mem_append_left _ (List.mem_append_left _ (List.mem_append_left _ (List.mem_append_left _ (List.mem_append_left _ (List.mem_append_left _ (List.mem_append_left _ (List.mem_append_left _ (List.mem_append_left _ (List.mem_append_left _ (List.mem_append_right _ (List.mem_append_right _ (List.mem_append_left _ h)))))))))))))))
theorem gch4 : ∀ w ∈ wsL_law0_r4, w ∈ gw := fun w h => gw_law w (List.mem_append_left _ (List.mem_append_left _ (List.mem_append_left _ (List.mem_append_left _ (List.mem_append_left _ (List.mem_append_left _ (List.mem_append_left _ (List.mem_append_left _ (List.mem_append_left _ (List.mem_append_left _ (List.mem_append_left _ (List.mem_append_left _ (List.mem_append_right _ (List.mem_append_right _ (List.mem_append_right _ (List.mem_append_left _ h))))))))))))))))
theorem gch5 : ∀ w ∈ wsL_law0_r5, w ∈ gw := fun w h => gw_law w (List.mem_append_left _ (List.mem_append_left _ (List.mem_append_left _ (List.mem_append_left _ (List.mem_append_left _ (List.mem_append_left _ (List.mem_append_left _ (List.mem_append_left _ (List.mem_append_left _ (List.mem_append_left _ (List.mem_append_left _ (List.mem_append_left _ (List.mem_append_right _ (List.mem_append_right _ (List.mem_append_right _ (List.mem_append_right _ (List.mem_append_left _ h)))))))))))))))))
theorem gch6 : ∀ w ∈ wsL_law0_r6, w ∈ gw := fun w h => gw_law w (List.mem_append_left _ (List.mem_append_left _ (List.mem_append_left _ (List.mem_append_left _ (List.mem_append_left _ (List.mem_append_left _ (List.mem_append_left _ (List.mem_append_left _ (List.mem_append_left _ (List.mem_append_left _ (List.mem_append_left _ (List.mem_append_left _ (List.mem_append_right _ (List.mem_append_right _ (List.mem_append_right _ (List.mem_append_right _ (List.mem_append_right _ (List.mem_append_left _ h))))))))))))))))))
theorem gch7 : ∀ w ∈ wsL_law0_r7, w ∈ gw := fun w h => gw_law w (List.mem_append_left _ (List.mem_append_left _ (List.mem_append_left _ (List.mem_append_left _ (List.mem_append_left _ (List.mem_append_left _ (List.mem_append_left _ (List.mem_append_left _ (List.mem_append_left _ (List.mem_append_left _ (List.mem_append_left _ (List.mem_append_left _ (List.mem_append_right _ (List.mem_append_right _ (List.mem_append_right _ (List.mem_append_right _ (List.mem_append_right _ (List.mem_append_right _ (List.mem_append_left _ h)))))))))))))))))))
theorem gch8 : ∀ w ∈ wsL_law0_r8, w ∈ gw := fun w h => gw_law w (List.mem_append_left _ (List.mem_append_left _ (List.mem_append_left _ (List.mem_append_left _ (List.mem_append_left _ (List.mem_append_left _ (List.mem_append_left _ (List.mem_append_left _ (List.mem_append_left _ (List.mem_append_left _ (List.mem_append_left _ (List.mem_append_left _ (List.mem_append_right _ (List.mem_append_right _ (List.mem_append_right _ (List.mem_append_right _ (List.mem_append_right _ (List.mem_append_right _ (List.mem_append_right _ (List.mem_append_left _ h))))))))))))))))))))
theorem gch9 : ∀ w ∈ wsL_law0_r9, w ∈ gw := fun w h => gw_law w (List.mem_append_left _ (List.mem_append_left _ (List.mem_append_left _ (List.mem_append_left _ (List.mem_append_left _ (List.mem_append_left _ (List.mem_append_left _ (List.mem_append_left _ (List.mem_append_left _ (List.mem_append_left _ (List.mem_append_left _ (List.mem_append_left _ (List.mem_append_right _ (List.mem_append_right _ (List.mem_append_right _ (List.mem_append_right _ (List.mem_append_right _ (List.mem_append_right _ (List.mem_append_right _ (List.mem_append_right _ (List.mem_append_left _ h)))))))))))))))))))))
theorem gch10 : ∀ w ∈ wsL_law0_r10, w ∈ gw := fun w h => gw_law w (List.mem_append_left _ (List.mem_append_left _ (List.mem_append_left _ (List.mem_append_left _ (List.mem_append_left _ (List.mem_append_left _ (List.mem_append_left _ (List.mem_append_left _ (List.mem_append_left _ (List.mem_append_left _ (List.mem_append_left _ (List.mem_append_left _ (List.mem_append_right _ (List.mem_append_right _ (List.mem_append_right _ (List.mem_append_right _ (List.mem_append_right _ (List.mem_append_right _ (List.mem_append_right _ (List.mem_append_right _ (List.mem_append_right _ (List.mem_append_left _ h))))))))))))))))))))))
theorem gch11 : ∀ w ∈ wsL_law0_r11, w ∈ gw := fun w h => gw_law w (List.mem_append_left _ (List.mem_append_left _ (List.mem_append_left _ (List.mem_append_left _ (List.mem_append_left _ (List.mem_append_left _ (List.mem_append_left _ (List.mem_append_left _ (List.mem_append_left _ (List.mem_append_left _ (List.mem_append_left _ (List.mem_append_left _ (List.mem_append_right _ (List.mem_append_right _ (List.mem_append_right _ (List.mem_append_right _ (List.mem_append_right _ (List.mem_append_right _ (List.mem_append_right _ (List.mem_append_right _ (List.mem_append_right _ (List.mem_append_right _ (List.mem_append_left _ h)))))))))))))))))))))))
theorem gch12 : ∀ w ∈ wsL_law0_r12, w ∈ gw := fun w h => gw_law w (List.mem_append_left _ (List.mem_append_left _ (List.mem_append_left _ (List.mem_append_left _ (List.mem_append_left _ (List.mem_append_left _ (List.mem_append_left _ (List.mem_append_left _ (List.mem_append_left _ (List.mem_append_left _ (List.mem_append_left _ (List.mem_append_left _ (List.mem_append_right _ (List.mem_append_right _ (List.mem_append_right _ (List.mem_append_right _ (List.mem_append_right _ (List.mem_append_right _ (List.mem_append_right _ (List.mem_append_right _ (List.mem_append_right _ (List.mem_append_right _ (List.mem_append_right _ (List.mem_append_left _ h))))))))))))))))))))))))
theorem gch13 : ∀ w ∈ wsL_law0_r13, w ∈ gw := fun w h => gw_law w (List.mem_append_left _ (List.mem_append_left _ (List.mem_append_left _ (List.mem_append_left _ (List.mem_append_left _ (List.mem_append_left _ (List.mem_append_left _ (List.mem_append_left _ (List.mem_append_left _ (List.mem_append_left _ (List.mem_append_left _ (List.mem_append_left _ (List.mem_append_right _ (List.mem_append_right _ (List.mem_append_right _ (List.mem_append_right _ (List.mem_append_right _ (List.mem_append_right _ (List.mem_append_right _ (List.mem_append_right _ (List.mem_append_right _ (List.mem_append_right _ (List.mem_append_right _ (List.mem_append_right _ (List.mem_append_left _ h)))))))))))))))))))))))))
theorem gch14 : ∀ w ∈ wsL_law0_r14, w ∈ gw := fun w h => gw_law w (List.mem_append_left _ (List.mem_append_left _ (List.mem_append_left _ (List.mem_append_left _ (List.mem_append_left _ (List.mem_append_left _ (List.mem_append_left _ (List.mem_append_left _ (List.mem_append_left _ (List.mem_append_left _ (List.mem_append_left _ (List.mem_append_left _ (List.mem_append_right _ (List.mem_append_right _ (List.mem_append_right _ (List.mem_append_right _ (List.mem_append_right _ (List.mem_append_right _ (List.mem_append_right _ (List.mem_append_right _ (List.mem_append_right _ (List.mem_append_right _ (List.mem_append_right _ (List.mem_append_right _ (List.mem_append_right _ (List.mem_append_left _ h))))))))))))))))))))))))))
theorem gch15 : ∀ w ∈ wsL_law0_r15, w ∈ gw := fun w h => gw_law w (List.mem_append_left _ (List.mem_append_left _ (List.mem_append_left _ (List.mem_append_left _ (List.mem_append_left _ (List.mem_append_left _ (List.mem_append_left _ (List.mem_append_left _ (List.mem_append_left _ (List.mem_append_left _ (List.mem_append_left _ (List.mem_append_left _ (List.mem_append_right _ (List.mem_append_right _ (List.mem_append_right _ (List.mem_append_right _ (List.mem_append_right _ (List.mem_append_right _ (List.mem_append_right _ (List.mem_append_right _ (List.mem_append_right _ (List.mem_append_right _ (List.mem_append_right _ (List.mem_append_right _ (List.mem_append_right _ (List.mem_append_right _ (List.mem_append_left _ h)))))))))))))))))))))))))))
theorem gch16 : ∀ w ∈ wsL_law0_r16, w ∈ gw := fun w h => gw_law w (List.mem_append_left _ (List.mem_append_left _ (List.mem_append_left _ (List.mem_append_left _ (List.mem_append_left _ (List.mem_append_left _ (List.mem_append_left _ (List.mem_append_left _ (List.mem_append_left _ (List.mem_append_left _ (List.mem_append_left _ (List.mem_append_left _ (List.mem_append_right _ (List.mem_append_right _ (List.mem_append_right _ (List.mem_append_right _ (List.mem_append_right _ (List.mem_append_right _ (List.mem_append_right _ (List.mem_append_right _ (List.mem_append_right _ (List.mem_append_right _ (List.mem_append_right _ (List.mem_append_right _ (List.mem_append_right _ (List.mem_append_right _ (List.mem_append_right _ (List.mem_append_left _ h))))))))))))))))))))))))))))
theorem gch17 : ∀ w ∈ wsL_law0_r17, w ∈ gw := fun w h => gw_law w (List.mem_append_left _ (List.mem_append_left _ (List.mem_append_left _ (List.mem_append_left _ (List.mem_append_left _ (List.mem_append_left _ (List.mem_append_left _ (List.mem_append_left _ (List.mem_append_left _ (List.mem_append_left _ (List.mem_append_left _ (List.mem_append_left _ (List.mem_append_right _ (List.mem_append_right _ (List.mem_append_right _ (List.mem_append_right _ (List.mem_append_right _ (List.mem_append_right _ (List.mem_append_right _ (List.mem_append_right _ (List.mem_append_right _ (List.mem_append_right _ (List.mem_append_right _ (List.mem_append_right _ (List.mem_append_right _ (List.mem_append_right _ (List.mem_append_right _ (List.mem_append_right _ (List.mem_append_left _ h)))))))))))))))))))))))))))))
theorem gch18 : ∀ w ∈ wsL_law0_r18, w ∈ gw := fun w h => gw_law w (List.mem_append_left _ (List.mem_append_left _ (List.mem_append_left _ (List.mem_append_left _ (List.mem_append_left _ (List.mem_append_left _ (List.mem_append_left _ (List.mem_append_left _ (List.mem_append_left _ (List.mem_append_left _ (List.mem_append_left _ (List.mem_append_left _ (List.mem_append_right _ (List.mem_append_right _ (List.mem_append_right _ (List.mem_append_right _ (List.mem_append_right _ (List.mem_append_right _ (List.mem_append_right _ (List.mem_append_right _ (List.mem_append_right _ (List.mem_append_right _ (List.mem_append_right _ (List.mem_append_right _ (List.mem_append_right _ (List.mem_append_right _ (List.mem_append_right _ (List.mem_append_right _ (List.mem_append_right _ (List.mem_append_left _ h))))))))))))))))))))))))))))))
theorem gch19 : ∀ w ∈ wsL_law0_r19, w ∈ gw := fun w h => gw_law w (List.mem_append_left _ (List.mem_append_left _ (List.mem_append_left _ (List.mem_append_left _ (List.mem_append_left _ (List.mem_append_left _ (List.mem_append_left _ (List.mem_append_left _ (List.mem_append_left _ (List.mem_append_left _ (List.mem_append_left _ (List.mem_append_left _ (List.mem_append_right _ (List.mem_append_right _ (List.mem_append_right _ (List.mem_append_right _ (List.mem_append_right _ (List.mem_append_right _ (List.mem_append_right _ (List.mem_append_right _ (List.mem_append_right _ (List.mem_append_right _ (List.mem_append_right _ (List.mem_append_right _ (List.mem_append_right _ (List.mem_append_right _ (List.mem_append_right _ (List.mem_append_right _ (List.mem_append_right _ (List.mem_append_right _ (List.mem_append_left _ h)))))))))))))))))))))))))))))))
theorem gch20 : ∀ w ∈ wsL_law0_r20, w ∈ gw := fun w h => gw_law w (List.mem_append_left _ (List.mem_append_left _ (List.mem_append_left _ (List.mem_append_left _ (List.mem_append_left _ (List.mem_append_left _ (List.mem_append_left _ (List.mem_append_left _ (List.mem_append_left _ (List.mem_append_left _ (List.mem_append_left _ (List.mem_append_left _ (List.mem_append_right _ (List.mem_append_right _ (List.mem_append_right _ (List.mem_append_right _ (List.mem_append_right _ (List.mem_append_right _ (List.mem_append_right _ (List.mem_append_right _ (List.mem_append_right _ (List.mem_append_right _ (List.mem_append_right _ (List.mem_append_right _ (List.mem_append_right _ (List.mem_append_right _ (List.mem_append_right _ (List.mem_append_right _ (List.mem_append_right _ (List.mem_append_right _ (List.mem_append_right _ (List.mem_append_left _ h))))))))))))))))))))))))))))))))
theorem gch21 : ∀ w ∈ wsL_law0_r21, w ∈ gw := fun w h => gw_law w (List.mem_append_left _ (List.mem_append_left _ (List.mem_append_left _ (List.mem_append_left _ (List.mem_append_left _ (List.mem_append_left _ (List.mem_append_left _ (List.mem_append_left _ (List.mem_append_left _ (List.mem_append_left _ (List.mem_append_left _ (List.mem_append_left _ (List.mem_append_right _ (List.mem_append_right _ (List.mem_append_right _ (List.mem_append_right _ (List.mem_append_right _ (List.mem_append_right _ (List.mem_append_right _ (List.mem_append_right _ (List.mem_append_right _ (List.mem_append_right _ (List.mem_append_right _ (List.mem_append_right _ (List.mem_append_right _ (List.mem_append_right _ (List.mem_append_right _ (List.mem_append_right _ (List.mem_append_right _ (List.mem_append_right _ (List.mem_append_right _ (List.mem_append_right _ (List.mem_append_left _ h)))))))))))))))))))))))))))))))))
theorem gch22 : ∀ w ∈ wsL_law0_r22, w ∈ gw := fun w h => gw_law w (List.mem_append_left _ (List.mem_append_left _ (List.mem_append_left _ (List.mem_append_left _ (List.mem_append_left _ (List.mem_append_left _ (List.mem_append_left _ (List.mem_append_left _ (List.mem_append_left _ (List.mem_append_left _ (List.mem_append_left _ (List.mem_append_left _ (List.mem_append_right _ (List.mem_append_right _ (List.mem_append_right _ (List.mem_append_right _ (List.mem_append_right _ (List.mem_append_right _ (List.mem_append_right _ (List.mem_append_right _ (List.mem_append_right _ (List.mem_append_right _ (List.mem_append_right _ (List.mem_append_right _ (List.mem_append_right _ (List.mem_append_right _ (List.mem_append_right _ (List.mem_append_right _ (List.mem_append_right _ (List.mem_append_right _ (List.mem_append_right _ (List.mem_append_right _ (List.mem_append_right _ (List.mem_append_left _ h))))))))))))))))))))))))))))))))))
theorem gch23 : ∀ w ∈ wsL_law0_r23, w ∈ gw := fun w h => gw_law w (List.mem_append_left _ (List.mem_append_left _ (List.mem_append_left _ (List.mem_append_left _ (List.mem_append_left _ (List.mem_append_left _ (List.mem_append_left _ (List.mem_append_left _ (List.mem_append_left _ (List.mem_append_left _ (List.mem_append_left _ (List.mem_append_left _ (List.mem_append_right _ (List.mem_append_right _ (List.mem_append_right _ (List.mem_append_right _ (List.mem_append_right _ (List.mem_append_right _ (List.mem_append_right _ (List.mem_append_right _ (List.mem_append_right _ (List.mem_append_right _ (List.mem_append_right _ (List.mem_append_right _ (List.mem_append_right _ (List.mem_append_right _ (List.mem_append_right _ (List.mem_append_right _ (List.mem_append_right _ (List.mem_append_right _ (List.mem_append_right _ (List.mem_append_right _ (List.mem_append_right _ (List.mem_append_right _ (List.mem_append_left _ h)))))))))))))))))))))))))))))))))))
theorem gch24 : ∀ w ∈ wsL_law0_r24, w ∈ gw := fun w h => gw_law w (List.mem_append_left _ (List.mem_append_left _ (List.mem_append_left _ (List.mem_append_left _ (List.mem_append_left _ (List.mem_append_left _ (List.mem_append_left _ (List.mem_append_left _ (List.mem_append_left _ (List.mem_append_left _ (List.mem_append_left _ (List.mem_append_left _ (List.mem_append_right _ (List.mem_append_right _ (List.mem_append_right _ (List.mem_append_right _ (List.mem_append_right _ (List.mem_append_right _ (List.mem_append_right _ (List.mem_append_right _ (List.mem_append_right _ (List.mem_append_right _ (List.mem_append_right _ (List.mem_append_right _ (List.mem_append_right _ (List.mem_append_right _ (List.mem_append_right _ (List.mem_append_right _ (List.mem_append_right _ (List.mem_append_right _ (List.mem_append_right _ (List.mem_append_right _ (List.mem_append_right _ (List.mem_append_right _ (List.mem_append_right _ (List.mem_append_left _ h))))))))))))))))))))))))))))))))))))
theorem gch25 : ∀ w ∈ wsL_law0_r25, w ∈ gw := fun w h => gw_law w (List.mem_append_left _ (List.mem_append_left _ (List.mem_append_left _ (List.mem_append_left _ (List.mem_append_left _ (List.mem_append_left _ (List.mem_append_left _ (List.mem_append_left _ (List.mem_append_left _ (List.mem_append_left _ (List.mem_append_left _ (List.mem_append_left _ (List.mem_append_right _ (List.mem_append_right _ (List.mem_append_right _ (List.mem_append_right _ (List.mem_append_right _ (List.mem_append_right _ (List.mem_append_right _ (List.mem_append_right _ (List.mem_append_right _ (List.mem_append_right _ (List.mem_append_right _ (List.mem_append_right _ (List.mem_append_right _ (List.mem_append_right _ (List.mem_append_right _ (List.mem_append_right _ (List.mem_append_right _ (List.mem_append_right _ (List.mem_append_right _ (List.mem_append_right _ (List.mem_append_right _ (List.mem_append_right _ (List.mem_append_right _ (List.mem_append_right _ (List.mem_append_left _ h)))))))))))))))))))))))))))))))))))))
theorem gch26 : ∀ w ∈ wsL_law0_r26, w ∈ gw := fun w h => gw_law w (List.mem_append_left _ (List.mem_append_left _ (List.mem_append_left _ (List.mem_append_left _ (List.mem_append_left _ (List.mem_append_left _ (List.mem_append_left _ (List.mem_append_left _ (List.mem_append_left _ (List.mem_append_left _ (List.mem_append_left _ (List.mem_append_left _ (List.mem_append_right _ (List.mem_append_right _ (List.mem_append_right _ (List.mem_append_right _ (List.mem_append_right _ (List.mem_append_right _ (List.mem_append_right _ (List.mem_append_right _ (List.mem_append_right _ (List.mem_append_right _ (List.mem_append_right _ (List.mem_append_right _ (List.mem_append_right _ (List.mem_append_right _ (List.mem_append_right _ (List.mem_append_right _ (List.mem_append_right _ (List.mem_append_right _ (List.mem_append_right _ (List.mem_append_right _ (List.mem_append_right _ (List.mem_append_right _ (List.mem_append_right _ (List.mem_append_right _ (List.mem_append_right _ (List.mem_append_left _ h))))))))))))))))))))))))))))))))))))))
theorem gch27 : ∀ w ∈ wsL_law0_r27, w ∈ gw := fun w h => gw_law w (List.mem_append_left _ (List.mem_append_left _ (List.mem_append_left _ (List.mem_append_left _ (List.mem_append_left _ (List.mem_append_left _ (List.mem_append_left _ (List.mem_append_left _ (List.mem_append_left _ (List.mem_append_left _ (List.mem_append_left _ (List.mem_append_left _ (List.mem_append_right _ (List.mem_append_right _ (List.mem_append_right _ (List.mem_append_right _ (List.mem_append_right _ (List.mem_append_right _ (List.mem_append_right _ (List.mem_append_right _ (List.mem_append_right _ (List.mem_append_right _ (List.mem_append_right _ (List.mem_append_right _ (List.mem_append_right _ (List.mem_append_right _ (List.mem_append_right _ (List.mem_append_right _ (List.mem_append_right _ (List.mem_append_right _ (List.mem_append_right _ (List.mem_append_right _ (List.mem_append_right _ (List.mem_append_right _ (List.mem_append_right _ (List.mem_append_right _ (List.mem_append_right _ (List.mem_append_right _ (List.mem_append_left _ h)))))))))))))))))))))))))))))))))))))))
theorem gch28 : ∀ w ∈ wsL_law0_r28, w ∈ gw := fun w h => gw_law w (List.mem_append_left _ (List.mem_append_left _ (List.mem_append_left _ (List.mem_append_left _ (List.mem_append_left _ (List.mem_append_left _ (List.mem_append_left _ (List.mem_append_left _ (List.mem_append_left _ (List.mem_append_left _ (List.mem_append_left _ (List.mem_append_left _ (List.mem_append_right _ (List.mem_append_right _ (List.mem_append_right _ (List.mem_append_right _ (List.mem_append_right _ (List.mem_append_right _ (List.mem_append_right _ (List.mem_append_right _ (List.mem_append_right _ (List.mem_append_right _ (List.mem_append_right _ (List.mem_append_right _ (List.mem_append_right _ (List.mem_append_right _ (List.mem_append_right _ (List.mem_append_right _ (List.mem_append_right _ (List.mem_append_right _ (List.mem_append_right _ (List.mem_append_right _ (List.mem_append_right _ (List.mem_append_right _ (List.mem_append_right _ (List.mem_append_right _ (List.mem_append_right _ (List.mem_append_right _ (List.mem_append_right _ (List.mem_append_left _ h))))))))))))))))))))))))))))))))))))))))
theorem gch29 : ∀ w ∈ wsL_law0_r29, w ∈ gw := fun w h => gw_law w (List.mem_append_left _ (List.mem_append_left _ (List.mem_append_left _ (List.mem_append_left _ (List.mem_append_left _ (List.mem_append_left _ (List.mem_append_left _ (List.mem_append_left _ (List.mem_append_left _ (List.mem_append_left _ (List.mem_append_left _ (List.mem_append_left _ (List.mem_append_right _ (List.mem_append_right _ (List.mem_append_right _ (List.mem_append_right _ (List.mem_append_right _ (List.mem_append_right _ (List.mem_append_right _ (List.mem_append_right _ (List.mem_append_right _ (List.mem_append_right _ (List.mem_append_right _ (List.mem_append_right _ (List.mem_append_right _ (List.mem_append_right _ (List.mem_append_right _ (List.mem_append_right _ (List.mem_append_right _ (List.mem_append_right _ (List.mem_append_right _ (List.mem_append_right _ (List.mem_append_right _ (List.mem_append_right _ (List.mem_append_right _ (List.mem_append_right _ (List.mem_append_right _ (List.mem_append_right _ (List.mem_append_right _ (List.mem_append_right _ (List.mem_append_left _ h)))))))))))))))))))))))))))))))))))))))))
theorem gch30 : ∀ w ∈ wsL_law0_r30, w ∈ gw := fun w h => gw_law w (List.mem_append_left _ (List.mem_append_left _ (List.mem_append_left _ (List.mem_append_left _ (List.mem_append_left _ (List.mem_append_left _ (List.mem_append_left _ (List.mem_append_left _ (List.mem_append_left _ (List.mem_append_left _ (List.mem_append_left _ (List.mem_append_left _ (List.mem_append_right _ (List.mem_append_right _ (List.mem_append_right _ (List.mem_append_right _ (List.mem_append_right _ (List.mem_append_right _ (List.mem_append_right _ (List.mem_append_right _ (List.mem_append_right _ (List.mem_append_right _ (List.mem_append_right _ (List.mem_append_right _ (List.mem_append_right _ (List.mem_append_right _ (List.mem_append_right _ (List.mem_append_right _ (List.mem_append_right _ (List.mem_append_right _ (List.mem_append_right _ (List.mem_append_right _ (List.mem_append_right _ (List.mem_append_right _ (List.mem_append_right _ (List.mem_append_right _ (List.mem_append_right _ (List.mem_append_right _ (List.mem_append_right _ (List.mem_append_right _ (List.mem_append_right _ (List.mem_append_left _ h))))))))))))))))))))))))))))))))))))))))))
theorem gch31 : ∀ w ∈ wsL_law0_r31, w ∈ gw := fun w h => gw_law w (List.mem_append_left _ (List.mem_append_left _ (List.mem_append_left _ (List.mem_append_left _ (List.mem_append_left _ (List.mem_append_left _ (List.mem_append_left _ (List.mem_append_left _ (List.mem_append_left _ (List.mem_append_left _ (List.mem_append_left _ (List.mem_append_left _ (List.mem_append_right _ (List.mem_append_right _ (List.mem_append_right _ (List.mem_append_right _ (List.mem_append_right _ (List.mem_append_right _ (List.mem_append_right _ (List.mem_append_right _ (List.mem_append_right _ (List.mem_append_right _ (List.mem_append_right _ (List.mem_append_right _ (List.mem_append_right _ (List.mem_append_right _ (List.mem_append_right _ (List.mem_append_right _ (List.mem_append_right _ (List.mem_append_right _ (List.mem_append_right _ (List.mem_append_right _ (List.mem_append_right _ (List.mem_append_right _ (List.mem_append_right _ (List.mem_append_right _ (List.mem_append_right _ (List.mem_append_right _ (List.mem_append_right _ (List.mem_append_right _ (List.mem_append_right _ (List.mem_append_right _ (List.mem_append_left _ h)))))))))))))))))))))))))))))))))))))))))))
theorem gch32 : ∀ w ∈ wsL_law0_r32, w ∈ gw := fun w h => gw_law w (List.mem_append_left _ (List.mem_append_left _ (List.mem_append_left _ (List.mem_append_left _ (List.mem_append_left _ (List.mem_append_left _ (List.mem_append_left _ (List.mem_append_left _ (List.mem_append_left _ (List.mem_append_left _ (List.mem_append_left _ (List.mem_append_left _ (List.mem_append_right _ (List.mem_append_right _ (List.mem_append_right _ (List.mem_append_right _ (List.mem_append_right _ (List.mem_append_right _ (List.mem_append_right _ (List.mem_append_right _ (List.mem_append_right _ (List.mem_append_right _ (List.mem_append_right _ (List.mem_append_right _ (List.mem_append_right _ (List.mem_append_right _ (List.mem_append_right _ (List.mem_append_right _ (List.mem_append_right _ (List.mem_append_right _ (List.mem_append_right _ (List.mem_append_right _ (List.mem_append_right _ (List.mem_append_right _ (List.mem_append_right _ (List.mem_append_right _ (List.mem_append_right _ (List.mem_append_right _ (List.mem_append_right _ (List.mem_append_right _ (List.mem_append_right _ (List.mem_append_right _ (List.mem_append_right _ (List.mem_append_left _ h))))))))))))))))))))))))))))))))))))))))))))
theorem gch33 : ∀ w ∈ wsL_law0_r33, w ∈ gw := fun w h => gw_law w (List.mem_append_left _ (List.mem_append_left _ (List.mem_append_left _ (List.mem_append_left _ (List.mem_append_left _ (List.mem_append_left _ (List.mem_append_left _ (List.mem_append_left _ (List.mem_append_left _ (List.mem_append_left _ (List.mem_append_left _ (List.mem_append_left _ (List.mem_append_right _ (List.mem_append_right _ (List.mem_append_right _ (List.mem_append_right _ (List.mem_append_right _ (List.mem_append_right _ (List.mem_append_right _ (List.mem_append_right _ (List.mem_append_right _ (List.mem_append_right _ (List.mem_append_right _ (List.mem_append_right _ (List.mem_append_right _ (List.mem_append_right _ (List.mem_append_right _ (List.mem_append_right _ (List.mem_append_right _ (List.mem_append_right _ (List.mem_append_right _ (List.mem_append_right _ (List.mem_append_right _ (List.mem_append_right _ (List.mem_append_right _ (List.mem_append_right _ (List.mem_append_right _ (List.mem_append_right _ (List.mem_append_right _ (List.mem_append_right _ (List.mem_append_right _ (List.mem_append_right _ (List.mem_append_right _ (List.mem_append_right _ (List.mem_append_left _ h)))))))))))))))))))))))))))))))))))))))))))))
theorem gch34 : ∀ w ∈ wsL_law0_r34, w ∈ gw := fun w h => gw_law w (List.mem_append_left _ (List.mem_append_left _ (List.mem_append_left _ (List.mem_append_left _ (List.mem_append_left _ (List.mem_append_left _ (List.mem_append_left _ (List.mem_append_left _ (List.mem_append_left _ (List.mem_append_left _ (List.mem_append_left _ (List.mem_append_left _ (List.mem_append_right _ (List.mem_append_right _ (List.mem_append_right _ (List.mem_append_right _ (List.mem_append_right _ (List.mem_append_right _ (List.mem_append_right _ (List.mem_append_right _ (List.mem_append_right _ (List.mem_append_right _ (List.mem_append_right _ (List.mem_append_right _ (List.mem_append_right _ (List.mem_append_right _ (List.mem_append_right _ (List.mem_append_right _ (List.mem_append_right _ (List.mem_append_right _ (List.mem_append_right _ (List.mem_append_right _ (List.mem_append_right _ (List.mem_append_right _ (List.mem_append_right _ (List.mem_append_right _ (List.mem_append_right _ (List.mem_append_right _ (List.mem_append_right _ (List.mem_append_right _ (List.mem_append_right _ (List.mem_append_right _ (List.mem_append_right _ (List.mem_append_right _ (List.mem_append_right _ (List.mem_append_left _ h))))))))))))))))))))))))))))))))))))))))))))))
theorem gch35 : ∀ w ∈ wsL_law0_r35, w ∈ gw := fun w h => gw_law w (List.mem_append_left _ (List.mem_append_left _ (List.mem_append_left _ (List.mem_append_left _ (List.mem_append_left _ (List.mem_append_left _ (List.mem_append_left _ (List.mem_append_left _ (List.mem_append_left _ (List.mem_append_left _ (List.mem_append_left _ (List.mem_append_left _ (List.mem_append_right _ (List.mem_append_right _ (List.mem_append_right _ (List.mem_append_right _ (List.mem_append_right _ (List.mem_append_right _ (List.mem_append_right _ (List.mem_append_right _ (List.mem_append_right _ (List.mem_append_right _ (List.mem_append_right _ (List.mem_append_right _ (List.mem_append_right _ (List.mem_append_right _ (List.mem_append_right _ (List.mem_append_right _ (List.mem_append_right _ (List.mem_append_right _ (List.mem_append_right _ (List.mem_append_right _ (List.mem_append_right _ (List.mem_append_right _ (List.mem_append_right _ (List.mem_append_right _ (List.mem_append_right _ (List.mem_append_right _ (List.mem_append_right _ (List.mem_append_right _ (List.mem_append_right _ (List.mem_append_right _ (List.mem_append_right _ (List.mem_append_right _ (List.mem_append_right _ (List.mem_append_right _ (List.mem_append_left _ h)))))))))))))))))))))))))))))))))))))))))))))))
theorem gch36 : ∀ w ∈ wsL_law0_r36, w ∈ gw := fun w h => gw_law w (List.mem_append_left _ (List.mem_append_left _ (List.mem_append_left _ (List.mem_append_left _ (List.mem_append_left _ (List.mem_append_left _ (List.mem_append_left _ (List.mem_append_left _ (List.mem_append_left _ (List.mem_append_left _ (List.mem_append_left _ (List.mem_append_left _ (List.mem_append_right _ (List.mem_append_right _ (List.mem_append_right _ (List.mem_append_right _ (List.mem_append_right _ (List.mem_append_right _ (List.mem_append_right _ (List.mem_append_right _ (List.mem_append_right _ (List.mem_append_right _ (List.mem_append_right _ (List.mem_append_right _ (List.mem_append_right _ (List.mem_append_right _ (List.mem_append_right _ (List.mem_append_right _ (List.mem_append_right _ (List.mem_append_right _ (List.mem_append_right _ (List.mem_append_right _ (List.mem_append_right _ (List.mem_append_right _ (List.mem_append_right _ (List.mem_append_right _ (List.mem_append_right _ (List.mem_append_right _ (List.mem_append_right _ (List.mem_append_right _ (List.mem_append_right _ (List.mem_append_right _ (List.mem_append_right _ (List.mem_append_right _ (List.mem_append_right _ (List.mem_append_right _ (List.mem_append_right _ (List.mem_append_left _ h))))))))))))))))))))))))))))))))))))))))))))))))
theorem gch37 : ∀ w ∈ wsL_law0_r37, w ∈ gw := fun w h => gw_law w (List.mem_append_left _ (List.mem_append_left _ (List.mem_append_left _ (List.mem_append_left _ (List.mem_append_left _ (List.mem_append_left _ (List.mem_append_left _ (List.mem_append_left _ (List.mem_append_left _ (List.mem_append_left _ (List.mem_append_left _ (List.mem_append_left _ (List.mem_append_right _ (List.mem_append_right _ (List.mem_append_right _ (List.mem_append_right _ (List.mem_append_right _ (List.mem_append_right _ (List.mem_append_right _ (List.mem_append_right _ (List.mem_append_right _ (List.mem_append_right _ (List.mem_append_right _ (List.mem_append_right _ (List.mem_append_right _ (List.mem_append_right _ (List.mem_append_right _ (List.mem_append_right _ (List.mem_append_right _ (List.mem_append_right _ (List.mem_append_right _ (List.mem_append_right _ (List.mem_append_right _ (List.mem_append_right _ (List.mem_append_right _ (List.mem_append_right _ (List.mem_append_right _ (List.mem_append_right _ (List.mem_append_right _ (List.mem_append_right _ (List.mem_append_right _ (List.mem_append_right _ (List.mem_append_right _ (List.mem_append_right _ (List.mem_append_right _ (List.mem_append_right _ (List.mem_append_right _ (List.mem_append_right _ (List.mem_append_left _ h)))))))))))))))))))))))))))))))))))))))))))))))))
theorem gch38 : ∀ w ∈ wsL_law0_r38, w ∈ gw := fun w h => gw_law w (List.mem_append_left _ (List.mem_append_left _ (List.mem_append_left _ (List.mem_append_left _ (List.mem_append_left _ (List.mem_append_left _ (List.mem_append_left _ (List.mem_append_left _ (List.mem_append_left _ (List.mem_append_left _ (List.mem_append_left _ (List.mem_append_left _ (List.mem_append_right _ (List.mem_append_right _ (List.mem_append_right _ (List.mem_append_right _ (List.mem_append_right _ (List.mem_append_right _ (List.mem_append_right _ (List.mem_append_right _ (List.mem_append_right _ (List.mem_append_right _ (List.mem_append_right _ (List.mem_append_right _ (List.mem_append_right _ (List.mem_append_right _ (List.mem_append_right _ (List.mem_append_right _ (List.mem_append_right _ (List.mem_append_right _ (List.mem_append_right _ (List.mem_append_right _ (List.mem_append_right _ (List.mem_append_right _ (List.mem_append_right _ (List.mem_append_right _ (List.mem_append_right _ (List.mem_append_right _ (List.mem_append_right _ (List.mem_append_right _ (List.mem_append_right _ (List.mem_append_right _ (List.mem_append_right _ (List.mem_append_right _ (List.mem_append_right _ (List.mem_append_right _ (List.mem_append_right _ (List.mem_append_right _ (List.mem_append_right _ (h))))))))))))))))))))))))))))))))))))))))))))))))))
theorem cl_L_8 : Cond.classLink RL 8 RX9 ∈ gw := gch1 _ (List.mem_of_getElem? (i := 0) rfl)
theorem is_X9 : Cond.instantiable RX9 6 ∈ gw := gch1 _ (List.mem_of_getElem? (i := 1) rfl)
theorem in_X9 : Cond.initialized RX9 ∈ gw := gch1 _ (List.mem_of_getElem? (i := 2) rfl)
theorem cl_L_80 : Cond.classLink RL 80 RX10 ∈ gw := gch1 _ (List.mem_of_getElem? (i := 3) rfl)
theorem is_X10 : Cond.instantiable RX10 16 ∈ gw := gch1 _ (List.mem_of_getElem? (i := 4) rfl)
theorem in_X10 : Cond.initialized RX10 ∈ gw := gch1 _ (List.mem_of_getElem? (i := 5) rfl)
theorem ac_long : Cond.arrayClass .long ∈ gw := gch1 _ (List.mem_of_getElem? (i := 6) rfl)
theorem ac_double : Cond.arrayClass .double ∈ gw := gch1 _ (List.mem_of_getElem? (i := 7) rfl)
theorem ml_L_79 : Cond.methodLink RL 79 yX9_init ∈ gw := gch1 _ (List.mem_of_getElem? (i := 8) rfl)
theorem im_X9_init : Cond.instanceMethod yX9_init ∈ gw := gch1 _ (List.mem_of_getElem? (i := 9) rfl)
theorem co_X9_init : Cond.code yX9_init cX9_init 1 none ∈ gw := gch1 _ (List.mem_of_getElem? (i := 10) rfl)
theorem ml_X9_3 : Cond.methodLink RX9 3 objectInit ∈ gw := gch1 _ (List.mem_of_getElem? (i := 11) rfl)
theorem im_objinit : Cond.instanceMethod objectInit ∈ gw := gch1 _ (List.mem_of_getElem? (i := 12) rfl)
theorem co_objinit : Cond.code objectInit ⟨#[0xb1]⟩ 1 none ∈ gw := gch1 _ (List.mem_of_getElem? (i := 13) rfl)
theorem cl_X9_9 : Cond.classLink RX9 9 RX4 ∈ gw := gch1 _ (List.mem_of_getElem? (i := 14) rfl)
theorem is_X4 : Cond.instantiable RX4 6 ∈ gw := gch1 _ (List.mem_of_getElem? (i := 15) rfl)
theorem in_X4 : Cond.initialized RX4 ∈ gw := gch1 _ (List.mem_of_getElem? (i := 16) rfl)
theorem fl_X9_12 : Cond.fieldLink RX9 12 "RareFaults" "plant" "LRareFaults$Plant;" ∈ gw := gch1 _ (List.mem_of_getElem? (i := 17) rfl)
theorem cl_X9_16 : Cond.classLink RX9 16 RX2 ∈ gw := gch1 _ (List.mem_of_getElem? (i := 18) rfl)
theorem is_X2 : Cond.instantiable RX2 3 ∈ gw := gch1 _ (List.mem_of_getElem? (i := 19) rfl)
theorem in_X2 : Cond.initialized RX2 ∈ gw := gch1 _ (List.mem_of_getElem? (i := 20) rfl)
theorem fl_X9_19 : Cond.fieldLink RX9 19 "RareFaults" "history" "LRareFaults$History;" ∈ gw := gch1 _ (List.mem_of_getElem? (i := 21) rfl)
theorem cl_X9_23 : Cond.classLink RX9 23 RX8 ∈ gw := gch1 _ (List.mem_of_getElem? (i := 22) rfl)
theorem is_X8 : Cond.instantiable RX8 2 ∈ gw := gch1 _ (List.mem_of_getElem? (i := 23) rfl)
theorem in_X8 : Cond.initialized RX8 ∈ gw := gch2 _ (List.mem_of_getElem? (i := 0) rfl)
theorem fl_X9_26 : Cond.fieldLink RX9 26 "RareFaults" "buffer" "LRareFaults$Text;" ∈ gw := gch2 _ (List.mem_of_getElem? (i := 1) rfl)
theorem cl_X9_30 : Cond.classLink RX9 30 RX1 ∈ gw := gch2 _ (List.mem_of_getElem? (i := 2) rfl)
theorem is_X1 : Cond.instantiable RX1 1 ∈ gw := gch2 _ (List.mem_of_getElem? (i := 3) rfl)
theorem in_X1 : Cond.initialized RX1 ∈ gw := gch2 _ (List.mem_of_getElem? (i := 4) rfl)
theorem fl_X9_33 : Cond.fieldLink RX9 33 "RareFaults" "counting" "LRareFaults$Counting;" ∈ gw := gch2 _ (List.mem_of_getElem? (i := 5) rfl)
theorem cl_X9_37 : Cond.classLink RX9 37 RX3 ∈ gw := gch2 _ (List.mem_of_getElem? (i := 6) rfl)
theorem is_X3 : Cond.instantiable RX3 1 ∈ gw := gch2 _ (List.mem_of_getElem? (i := 7) rfl)
theorem in_X3 : Cond.initialized RX3 ∈ gw := gch2 _ (List.mem_of_getElem? (i := 8) rfl)
theorem fl_X9_40 : Cond.fieldLink RX9 40 "RareFaults" "likeliestFault" "LRareFaults$Likeliest;" ∈ gw := gch2 _ (List.mem_of_getElem? (i := 9) rfl)
theorem cl_X9_44 : Cond.classLink RX9 44 RX0 ∈ gw := gch2 _ (List.mem_of_getElem? (i := 10) rfl)
theorem is_X0 : Cond.instantiable RX0 1 ∈ gw := gch2 _ (List.mem_of_getElem? (i := 11) rfl)
theorem in_X0 : Cond.initialized RX0 ∈ gw := gch2 _ (List.mem_of_getElem? (i := 12) rfl)
theorem fl_X9_47 : Cond.fieldLink RX9 47 "RareFaults" "corrections" "LRareFaults$Corrections;" ∈ gw := gch2 _ (List.mem_of_getElem? (i := 13) rfl)
theorem im_X4_init : Cond.instanceMethod yX4_init ∈ gw := gch2 _ (List.mem_of_getElem? (i := 14) rfl)
theorem co_X4_init : Cond.code yX4_init cX4_init 1 none ∈ gw := gch2 _ (List.mem_of_getElem? (i := 15) rfl)
theorem ml_X4_3 : Cond.methodLink RX4 3 objectInit ∈ gw := gch2 _ (List.mem_of_getElem? (i := 16) rfl)
theorem cl_X4_9 : Cond.classLink RX4 9 RX7 ∈ gw := gch2 _ (List.mem_of_getElem? (i := 17) rfl)
theorem is_X7 : Cond.instantiable RX7 1 ∈ gw := gch2 _ (List.mem_of_getElem? (i := 18) rfl)
theorem in_X7 : Cond.initialized RX7 ∈ gw := gch2 _ (List.mem_of_getElem? (i := 19) rfl)
theorem fl_X4_12 : Cond.fieldLink RX4 12 "RareFaults$Plant" "weights" "LRareFaults$Table;" ∈ gw := gch2 _ (List.mem_of_getElem? (i := 20) rfl)
theorem fl_X4_18 : Cond.fieldLink RX4 18 "RareFaults$Plant" "tilted" "LRareFaults$Table;" ∈ gw := gch2 _ (List.mem_of_getElem? (i := 21) rfl)
theorem cl_X4_21 : Cond.classLink RX4 21 RX5 ∈ gw := gch2 _ (List.mem_of_getElem? (i := 22) rfl)
theorem is_X5 : Cond.instantiable RX5 7 ∈ gw := gch2 _ (List.mem_of_getElem? (i := 23) rfl)
theorem in_X5 : Cond.initialized RX5 ∈ gw := gch3 _ (List.mem_of_getElem? (i := 0) rfl)
theorem fl_X4_24 : Cond.fieldLink RX4 24 "RareFaults$Plant" "samples" "LRareFaults$Samples;" ∈ gw := gch3 _ (List.mem_of_getElem? (i := 1) rfl)
theorem fl_X4_28 : Cond.fieldLink RX4 28 "RareFaults$Plant" "parts" "I" ∈ gw := gch3 _ (List.mem_of_getElem? (i := 2) rfl)
theorem fl_X4_32 : Cond.fieldLink RX4 32 "RareFaults$Plant" "limit" "I" ∈ gw := gch3 _ (List.mem_of_getElem? (i := 3) rfl)
theorem fl_X4_35 : Cond.fieldLink RX4 35 "RareFaults$Plant" "seed" "I" ∈ gw := gch3 _ (List.mem_of_getElem? (i := 4) rfl)
theorem im_X7_init : Cond.instanceMethod yX7_init ∈ gw := gch3 _ (List.mem_of_getElem? (i := 5) rfl)
theorem co_X7_init : Cond.code yX7_init cX7_init 1 none ∈ gw := gch3 _ (List.mem_of_getElem? (i := 6) rfl)
theorem ml_X7_3 : Cond.methodLink RX7 3 objectInit ∈ gw := gch3 _ (List.mem_of_getElem? (i := 7) rfl)
theorem ac_int : Cond.arrayClass .int ∈ gw := gch3 _ (List.mem_of_getElem? (i := 8) rfl)
theorem fl_X7_9 : Cond.fieldLink RX7 9 "RareFaults$Table" "cells" "[I" ∈ gw := gch3 _ (List.mem_of_getElem? (i := 9) rfl)
theorem im_X5_init : Cond.instanceMethod yX5_init ∈ gw := gch3 _ (List.mem_of_getElem? (i := 10) rfl)
theorem co_X5_init : Cond.code yX5_init cX5_init 1 none ∈ gw := gch3 _ (List.mem_of_getElem? (i := 11) rfl)
theorem ml_X5_3 : Cond.methodLink RX5 3 objectInit ∈ gw := gch3 _ (List.mem_of_getElem? (i := 12) rfl)
theorem fl_X5_9 : Cond.fieldLink RX5 9 "RareFaults$Samples" "latestLoads" "[I" ∈ gw := gch3 _ (List.mem_of_getElem? (i := 13) rfl)
theorem im_X2_init : Cond.instanceMethod yX2_init ∈ gw := gch3 _ (List.mem_of_getElem? (i := 14) rfl)
theorem co_X2_init : Cond.code yX2_init cX2_init 1 none ∈ gw := gch3 _ (List.mem_of_getElem? (i := 15) rfl)
theorem ml_X2_3 : Cond.methodLink RX2 3 objectInit ∈ gw := gch3 _ (List.mem_of_getElem? (i := 16) rfl)
theorem cl_X2_9 : Cond.classLink RX2 9 RX4 ∈ gw := gch3 _ (List.mem_of_getElem? (i := 17) rfl)
theorem fl_X2_11 : Cond.fieldLink RX2 11 "RareFaults$History" "places" "[LRareFaults$Plant;" ∈ gw := gch3 _ (List.mem_of_getElem? (i := 18) rfl)
theorem fl_X2_17 : Cond.fieldLink RX2 17 "RareFaults$History" "next" "I" ∈ gw := gch3 _ (List.mem_of_getElem? (i := 19) rfl)
theorem fl_X2_21 : Cond.fieldLink RX2 21 "RareFaults$History" "number" "I" ∈ gw := gch3 _ (List.mem_of_getElem? (i := 20) rfl)
theorem im_X8_init : Cond.instanceMethod yX8_init ∈ gw := gch3 _ (List.mem_of_getElem? (i := 21) rfl)
theorem co_X8_init : Cond.code yX8_init cX8_init 1 none ∈ gw := gch3 _ (List.mem_of_getElem? (i := 22) rfl)
theorem ml_X8_3 : Cond.methodLink RX8 3 objectInit ∈ gw := gch3 _ (List.mem_of_getElem? (i := 23) rfl)
theorem fl_X8_9 : Cond.fieldLink RX8 9 "RareFaults$Text" "codes" "[I" ∈ gw := gch4 _ (List.mem_of_getElem? (i := 0) rfl)
theorem fl_X8_15 : Cond.fieldLink RX8 15 "RareFaults$Text" "length" "I" ∈ gw := gch4 _ (List.mem_of_getElem? (i := 1) rfl)
theorem im_X1_init : Cond.instanceMethod yX1_init ∈ gw := gch4 _ (List.mem_of_getElem? (i := 2) rfl)
theorem co_X1_init : Cond.code yX1_init cX1_init 1 none ∈ gw := gch4 _ (List.mem_of_getElem? (i := 3) rfl)
theorem ml_X1_3 : Cond.methodLink RX1 3 objectInit ∈ gw := gch4 _ (List.mem_of_getElem? (i := 4) rfl)
theorem fl_X1_9 : Cond.fieldLink RX1 9 "RareFaults$Counting" "ways" "[J" ∈ gw := gch4 _ (List.mem_of_getElem? (i := 5) rfl)
theorem im_X3_init : Cond.instanceMethod yX3_init ∈ gw := gch4 _ (List.mem_of_getElem? (i := 6) rfl)
theorem co_X3_init : Cond.code yX3_init cX3_init 1 none ∈ gw := gch4 _ (List.mem_of_getElem? (i := 7) rfl)
theorem ml_X3_3 : Cond.methodLink RX3 3 objectInit ∈ gw := gch4 _ (List.mem_of_getElem? (i := 8) rfl)
theorem fl_X3_9 : Cond.fieldLink RX3 9 "RareFaults$Likeliest" "most" "[I" ∈ gw := gch4 _ (List.mem_of_getElem? (i := 9) rfl)
theorem im_X0_init : Cond.instanceMethod yX0_init ∈ gw := gch4 _ (List.mem_of_getElem? (i := 10) rfl)
theorem co_X0_init : Cond.code yX0_init cX0_init 1 none ∈ gw := gch4 _ (List.mem_of_getElem? (i := 11) rfl)
theorem ml_X0_3 : Cond.methodLink RX0 3 objectInit ∈ gw := gch4 _ (List.mem_of_getElem? (i := 12) rfl)
theorem fl_X0_9 : Cond.fieldLink RX0 9 "RareFaults$Corrections" "greatestBySum" "[D" ∈ gw := gch4 _ (List.mem_of_getElem? (i := 13) rfl)
theorem ml_L_82 : Cond.methodLink RL 82 yX10_init ∈ gw := gch4 _ (List.mem_of_getElem? (i := 14) rfl)
theorem im_X10_init : Cond.instanceMethod yX10_init ∈ gw := gch4 _ (List.mem_of_getElem? (i := 15) rfl)
theorem co_X10_init : Cond.code yX10_init cX10_init 1 none ∈ gw := gch4 _ (List.mem_of_getElem? (i := 16) rfl)
theorem ml_X10_1 : Cond.methodLink RX10 1 objectInit ∈ gw := gch4 _ (List.mem_of_getElem? (i := 17) rfl)
theorem fl_X10_7 : Cond.fieldLink RX10 7 "RareFaultsModel" "z" "[I" ∈ gw := gch4 _ (List.mem_of_getElem? (i := 18) rfl)
theorem fl_X10_13 : Cond.fieldLink RX10 13 "RareFaultsModel" "sums" "[D" ∈ gw := gch4 _ (List.mem_of_getElem? (i := 19) rfl)
theorem fl_X10_17 : Cond.fieldLink RX10 17 "RareFaultsModel" "history" "[I" ∈ gw := gch4 _ (List.mem_of_getElem? (i := 20) rfl)
theorem fl_X10_20 : Cond.fieldLink RX10 20 "RareFaultsModel" "sumHistory" "[D" ∈ gw := gch4 _ (List.mem_of_getElem? (i := 21) rfl)
theorem fl_X10_23 : Cond.fieldLink RX10 23 "RareFaultsModel" "text" "[I" ∈ gw := gch4 _ (List.mem_of_getElem? (i := 22) rfl)
theorem fl_X10_26 : Cond.fieldLink RX10 26 "RareFaultsModel" "ways" "[J" ∈ gw := gch4 _ (List.mem_of_getElem? (i := 23) rfl)
theorem fl_X10_30 : Cond.fieldLink RX10 30 "RareFaultsModel" "most" "[I" ∈ gw := gch5 _ (List.mem_of_getElem? (i := 0) rfl)
theorem fl_X10_33 : Cond.fieldLink RX10 33 "RareFaultsModel" "told" "[I" ∈ gw := gch5 _ (List.mem_of_getElem? (i := 1) rfl)
theorem fl_X10_36 : Cond.fieldLink RX10 36 "RareFaultsModel" "row" "[I" ∈ gw := gch5 _ (List.mem_of_getElem? (i := 2) rfl)
theorem ml_L_83 : Cond.methodLink RL 83 yL_addPart ∈ gw := gch5 _ (List.mem_of_getElem? (i := 3) rfl)
theorem st_L_addPart : Cond.static yL_addPart ∈ gw := gch5 _ (List.mem_of_getElem? (i := 4) rfl)
theorem in_L : Cond.initialized RL ∈ gw := gch5 _ (List.mem_of_getElem? (i := 5) rfl)
theorem cx_L_addPart : Cond.codeWith yL_addPart cL_addPart 4 (some .int) [(0, 9, 12, 13), (0, 9, 15, 15)] ∈ gw := gch5 _ (List.mem_of_getElem? (i := 6) rfl)
theorem cl_L_13 : Cond.classLink RL 13 "java/lang/IllegalArgumentException" ∈ gw := gch5 _ (List.mem_of_getElem? (i := 7) rfl)
theorem cl_L_15 : Cond.classLink RL 15 "java/lang/IllegalStateException" ∈ gw := gch5 _ (List.mem_of_getElem? (i := 8) rfl)
theorem ml_L_7 : Cond.methodLink RL 7 yX9_addPart ∈ gw := gch5 _ (List.mem_of_getElem? (i := 9) rfl)
theorem im_X9_addPart : Cond.instanceMethod yX9_addPart ∈ gw := gch5 _ (List.mem_of_getElem? (i := 10) rfl)
theorem se_X9_addPart : Cond.selects RX9 yX9_addPart yX9_addPart ∈ gw := gch5 _ (List.mem_of_getElem? (i := 11) rfl)
theorem co_X9_addPart : Cond.code yX9_addPart cX9_addPart 4 (some .int) ∈ gw := gch5 _ (List.mem_of_getElem? (i := 12) rfl)
theorem cl_X9_51 : Cond.classLink RX9 51 "java/lang/IllegalArgumentException" ∈ gw := gch5 _ (List.mem_of_getElem? (i := 13) rfl)
theorem in_IllegalArgumentException : Cond.initialized "java/lang/IllegalArgumentException" ∈ gw := gch5 _ (List.mem_of_getElem? (i := 14) rfl)
theorem cl_X9_62 : Cond.classLink RX9 62 "java/lang/IllegalStateException" ∈ gw := gch5 _ (List.mem_of_getElem? (i := 15) rfl)
theorem in_IllegalStateException : Cond.initialized "java/lang/IllegalStateException" ∈ gw := gch5 _ (List.mem_of_getElem? (i := 16) rfl)
theorem fl_X9_58 : Cond.fieldLink RX9 58 "RareFaults$Plant" "parts" "I" ∈ gw := gch5 _ (List.mem_of_getElem? (i := 17) rfl)
theorem ml_X9_67 : Cond.methodLink RX9 67 yX2_save ∈ gw := gch5 _ (List.mem_of_getElem? (i := 18) rfl)
theorem im_X2_save : Cond.instanceMethod yX2_save ∈ gw := gch5 _ (List.mem_of_getElem? (i := 19) rfl)
theorem se_X2_save : Cond.selects RX2 yX2_save yX2_save ∈ gw := gch5 _ (List.mem_of_getElem? (i := 20) rfl)
theorem co_X2_save : Cond.code yX2_save cX2_save 3 none ∈ gw := gch5 _ (List.mem_of_getElem? (i := 21) rfl)
theorem ml_X2_29 : Cond.methodLink RX2 29 Lib.Math.min.name ∈ gw := gch5 _ (List.mem_of_getElem? (i := 22) rfl)
theorem st_min : Cond.static Lib.Math.min.name ∈ gw := gch5 _ (List.mem_of_getElem? (i := 23) rfl)
theorem in_Math : Cond.initialized "java/lang/Math" ∈ gw := gch6 _ (List.mem_of_getElem? (i := 0) rfl)
theorem co_min : Cond.code Lib.Math.min.name Lib.Math.min.code 2 (some .int) ∈ gw := gch6 _ (List.mem_of_getElem? (i := 1) rfl)
theorem ml_X2_25 : Cond.methodLink RX2 25 yX4_copyFrom ∈ gw := gch6 _ (List.mem_of_getElem? (i := 2) rfl)
theorem im_X4_copyFrom : Cond.instanceMethod yX4_copyFrom ∈ gw := gch6 _ (List.mem_of_getElem? (i := 3) rfl)
theorem se_X4_copyFrom : Cond.selects RX4 yX4_copyFrom yX4_copyFrom ∈ gw := gch6 _ (List.mem_of_getElem? (i := 4) rfl)
theorem co_X4_copyFrom : Cond.code yX4_copyFrom cX4_copyFrom 2 none ∈ gw := gch6 _ (List.mem_of_getElem? (i := 5) rfl)
theorem ml_X4_90 : Cond.methodLink RX4 90 yX7_copyFrom ∈ gw := gch6 _ (List.mem_of_getElem? (i := 6) rfl)
theorem im_X7_copyFrom : Cond.instanceMethod yX7_copyFrom ∈ gw := gch6 _ (List.mem_of_getElem? (i := 7) rfl)
theorem se_X7_copyFrom : Cond.selects RX7 yX7_copyFrom yX7_copyFrom ∈ gw := gch6 _ (List.mem_of_getElem? (i := 8) rfl)
theorem co_X7_copyFrom : Cond.code yX7_copyFrom cX7_copyFrom 3 none ∈ gw := gch6 _ (List.mem_of_getElem? (i := 9) rfl)
theorem ml_X4_94 : Cond.methodLink RX4 94 yX5_copyFrom ∈ gw := gch6 _ (List.mem_of_getElem? (i := 10) rfl)
theorem im_X5_copyFrom : Cond.instanceMethod yX5_copyFrom ∈ gw := gch6 _ (List.mem_of_getElem? (i := 11) rfl)
theorem se_X5_copyFrom : Cond.selects RX5 yX5_copyFrom yX5_copyFrom ∈ gw := gch6 _ (List.mem_of_getElem? (i := 12) rfl)
theorem co_X5_copyFrom : Cond.code yX5_copyFrom cX5_copyFrom 3 none ∈ gw := gch6 _ (List.mem_of_getElem? (i := 13) rfl)
theorem fl_X5_15 : Cond.fieldLink RX5 15 "RareFaults$Samples" "number" "I" ∈ gw := gch6 _ (List.mem_of_getElem? (i := 14) rfl)
theorem fl_X5_19 : Cond.fieldLink RX5 19 "RareFaults$Samples" "faults" "I" ∈ gw := gch6 _ (List.mem_of_getElem? (i := 15) rfl)
theorem fl_X5_22 : Cond.fieldLink RX5 22 "RareFaults$Samples" "faultSum" "D" ∈ gw := gch6 _ (List.mem_of_getElem? (i := 16) rfl)
theorem fl_X5_26 : Cond.fieldLink RX5 26 "RareFaults$Samples" "sum" "D" ∈ gw := gch6 _ (List.mem_of_getElem? (i := 17) rfl)
theorem fl_X5_29 : Cond.fieldLink RX5 29 "RareFaults$Samples" "squareSum" "D" ∈ gw := gch6 _ (List.mem_of_getElem? (i := 18) rfl)
theorem fl_X5_32 : Cond.fieldLink RX5 32 "RareFaults$Samples" "latestCorrection" "D" ∈ gw := gch6 _ (List.mem_of_getElem? (i := 19) rfl)
theorem ml_X9_71 : Cond.methodLink RX9 71 yX4_addEmptyPart ∈ gw := gch6 _ (List.mem_of_getElem? (i := 20) rfl)
theorem im_X4_addEmptyPart : Cond.instanceMethod yX4_addEmptyPart ∈ gw := gch6 _ (List.mem_of_getElem? (i := 21) rfl)
theorem se_X4_addEmptyPart : Cond.selects RX4 yX4_addEmptyPart yX4_addEmptyPart ∈ gw := gch6 _ (List.mem_of_getElem? (i := 22) rfl)
theorem co_X4_addEmptyPart : Cond.code yX4_addEmptyPart cX4_addEmptyPart 1 (some .int) ∈ gw := gch6 _ (List.mem_of_getElem? (i := 23) rfl)
theorem ml_X4_38 : Cond.methodLink RX4 38 yX5_clear ∈ gw := gch7 _ (List.mem_of_getElem? (i := 0) rfl)
theorem im_X5_clear : Cond.instanceMethod yX5_clear ∈ gw := gch7 _ (List.mem_of_getElem? (i := 1) rfl)
theorem se_X5_clear : Cond.selects RX5 yX5_clear yX5_clear ∈ gw := gch7 _ (List.mem_of_getElem? (i := 2) rfl)
theorem co_X5_clear : Cond.code yX5_clear cX5_clear 1 none ∈ gw := gch7 _ (List.mem_of_getElem? (i := 3) rfl)
theorem ml_X9_75 : Cond.methodLink RX9 75 yX4_setBothWeights ∈ gw := gch7 _ (List.mem_of_getElem? (i := 4) rfl)
theorem im_X4_setBothWeights : Cond.instanceMethod yX4_setBothWeights ∈ gw := gch7 _ (List.mem_of_getElem? (i := 5) rfl)
theorem se_X4_setBothWeights : Cond.selects RX4 yX4_setBothWeights yX4_setBothWeights ∈ gw := gch7 _ (List.mem_of_getElem? (i := 6) rfl)
theorem co_X4_setBothWeights : Cond.code yX4_setBothWeights cX4_setBothWeights 4 none ∈ gw := gch7 _ (List.mem_of_getElem? (i := 7) rfl)
theorem ml_X4_45 : Cond.methodLink RX4 45 yX7_set ∈ gw := gch7 _ (List.mem_of_getElem? (i := 8) rfl)
theorem im_X7_set : Cond.instanceMethod yX7_set ∈ gw := gch7 _ (List.mem_of_getElem? (i := 9) rfl)
theorem se_X7_set : Cond.selects RX7 yX7_set yX7_set ∈ gw := gch7 _ (List.mem_of_getElem? (i := 10) rfl)
theorem co_X7_set : Cond.code yX7_set cX7_set 4 none ∈ gw := gch7 _ (List.mem_of_getElem? (i := 11) rfl)
theorem ml_L_88 : Cond.methodLink RL 88 yX10_addPart ∈ gw := gch7 _ (List.mem_of_getElem? (i := 12) rfl)
theorem im_X10_addPart : Cond.instanceMethod yX10_addPart ∈ gw := gch7 _ (List.mem_of_getElem? (i := 13) rfl)
theorem se_X10_addPart : Cond.selects RX10 yX10_addPart yX10_addPart ∈ gw := gch7 _ (List.mem_of_getElem? (i := 14) rfl)
theorem co_X10_addPart : Cond.code yX10_addPart cX10_addPart 4 (some .int) ∈ gw := gch7 _ (List.mem_of_getElem? (i := 15) rfl)
theorem fl_X10_39 : Cond.fieldLink RX10 39 "RareFaultsModel" "thrown" "I" ∈ gw := gch7 _ (List.mem_of_getElem? (i := 16) rfl)
theorem ml_X10_100 : Cond.methodLink RX10 100 yX10_isLoad ∈ gw := gch7 _ (List.mem_of_getElem? (i := 17) rfl)
theorem st_X10_isLoad : Cond.static yX10_isLoad ∈ gw := gch7 _ (List.mem_of_getElem? (i := 18) rfl)
theorem co_X10_isLoad : Cond.code yX10_isLoad cX10_isLoad 1 (some .boolean) ∈ gw := gch7 _ (List.mem_of_getElem? (i := 19) rfl)
theorem ml_X10_46 : Cond.methodLink RX10 46 yX10_within ∈ gw := gch7 _ (List.mem_of_getElem? (i := 20) rfl)
theorem st_X10_within : Cond.static yX10_within ∈ gw := gch7 _ (List.mem_of_getElem? (i := 21) rfl)
theorem co_X10_within : Cond.code yX10_within cX10_within 3 (some .boolean) ∈ gw := gch7 _ (List.mem_of_getElem? (i := 22) rfl)
theorem ml_X10_104 : Cond.methodLink RX10 104 yX10_save ∈ gw := gch7 _ (List.mem_of_getElem? (i := 23) rfl)
theorem im_X10_save : Cond.instanceMethod yX10_save ∈ gw := gch8 _ (List.mem_of_getElem? (i := 0) rfl)
theorem se_X10_save : Cond.selects RX10 yX10_save yX10_save ∈ gw := gch8 _ (List.mem_of_getElem? (i := 1) rfl)
theorem co_X10_save : Cond.code yX10_save cX10_save 2 none ∈ gw := gch8 _ (List.mem_of_getElem? (i := 2) rfl)
theorem fl_X10_43 : Cond.fieldLink RX10 43 "RareFaultsModel" "states" "I" ∈ gw := gch8 _ (List.mem_of_getElem? (i := 3) rfl)
theorem ml_X10_107 : Cond.methodLink RX10 107 yX10_forgets ∈ gw := gch8 _ (List.mem_of_getElem? (i := 4) rfl)
theorem im_X10_forgets : Cond.instanceMethod yX10_forgets ∈ gw := gch8 _ (List.mem_of_getElem? (i := 5) rfl)
theorem se_X10_forgets : Cond.selects RX10 yX10_forgets yX10_forgets ∈ gw := gch8 _ (List.mem_of_getElem? (i := 6) rfl)
theorem co_X10_forgets : Cond.code yX10_forgets cX10_forgets 3 (some .int) ∈ gw := gch8 _ (List.mem_of_getElem? (i := 7) rfl)
theorem ml_X10_110 : Cond.methodLink RX10 110 yX10_layPart ∈ gw := gch8 _ (List.mem_of_getElem? (i := 8) rfl)
theorem im_X10_layPart : Cond.instanceMethod yX10_layPart ∈ gw := gch8 _ (List.mem_of_getElem? (i := 9) rfl)
theorem se_X10_layPart : Cond.selects RX10 yX10_layPart yX10_layPart ∈ gw := gch8 _ (List.mem_of_getElem? (i := 10) rfl)
theorem co_X10_layPart : Cond.code yX10_layPart cX10_layPart 3 none ∈ gw := gch8 _ (List.mem_of_getElem? (i := 11) rfl)
theorem ml_X10_50 : Cond.methodLink RX10 50 yX10_weightOf ∈ gw := gch8 _ (List.mem_of_getElem? (i := 12) rfl)
theorem im_X10_weightOf : Cond.instanceMethod yX10_weightOf ∈ gw := gch8 _ (List.mem_of_getElem? (i := 13) rfl)
theorem se_X10_weightOf : Cond.selects RX10 yX10_weightOf yX10_weightOf ∈ gw := gch8 _ (List.mem_of_getElem? (i := 14) rfl)
theorem co_X10_weightOf : Cond.code yX10_weightOf cX10_weightOf 3 (some .int) ∈ gw := gch8 _ (List.mem_of_getElem? (i := 15) rfl)
theorem ml_L_89 : Cond.methodLink RL 89 yX10_thrown ∈ gw := gch8 _ (List.mem_of_getElem? (i := 16) rfl)
theorem im_X10_thrown : Cond.instanceMethod yX10_thrown ∈ gw := gch8 _ (List.mem_of_getElem? (i := 17) rfl)
theorem se_X10_thrown : Cond.selects RX10 yX10_thrown yX10_thrown ∈ gw := gch8 _ (List.mem_of_getElem? (i := 18) rfl)
theorem co_X10_thrown : Cond.code yX10_thrown cX10_thrown 1 (some .int) ∈ gw := gch8 _ (List.mem_of_getElem? (i := 19) rfl)
theorem ml_L_92 : Cond.methodLink RL 92 yL_removePart ∈ gw := gch8 _ (List.mem_of_getElem? (i := 20) rfl)
theorem st_L_removePart : Cond.static yL_removePart ∈ gw := gch8 _ (List.mem_of_getElem? (i := 21) rfl)
theorem cx_L_removePart : Cond.codeWith yL_removePart cL_removePart 4 (some .int) [(0, 9, 12, 20)] ∈ gw := gch8 _ (List.mem_of_getElem? (i := 22) rfl)
theorem cl_L_20 : Cond.classLink RL 20 "java/lang/IndexOutOfBoundsException" ∈ gw := gch8 _ (List.mem_of_getElem? (i := 23) rfl)
theorem ml_L_17 : Cond.methodLink RL 17 yX9_removePart ∈ gw := gch9 _ (List.mem_of_getElem? (i := 0) rfl)
theorem im_X9_removePart : Cond.instanceMethod yX9_removePart ∈ gw := gch9 _ (List.mem_of_getElem? (i := 1) rfl)
theorem se_X9_removePart : Cond.selects RX9 yX9_removePart yX9_removePart ∈ gw := gch9 _ (List.mem_of_getElem? (i := 2) rfl)
theorem co_X9_removePart : Cond.code yX9_removePart cX9_removePart 2 (some .int) ∈ gw := gch9 _ (List.mem_of_getElem? (i := 3) rfl)
theorem ml_X9_79 : Cond.methodLink RX9 79 yX9_requirePart ∈ gw := gch9 _ (List.mem_of_getElem? (i := 4) rfl)
theorem im_X9_requirePart : Cond.instanceMethod yX9_requirePart ∈ gw := gch9 _ (List.mem_of_getElem? (i := 5) rfl)
theorem se_X9_requirePart : Cond.selects RX9 yX9_requirePart yX9_requirePart ∈ gw := gch9 _ (List.mem_of_getElem? (i := 6) rfl)
theorem co_X9_requirePart : Cond.code yX9_requirePart cX9_requirePart 2 none ∈ gw := gch9 _ (List.mem_of_getElem? (i := 7) rfl)
theorem cl_X9_318 : Cond.classLink RX9 318 "java/lang/IndexOutOfBoundsException" ∈ gw := gch9 _ (List.mem_of_getElem? (i := 8) rfl)
theorem in_IndexOutOfBoundsException : Cond.initialized "java/lang/IndexOutOfBoundsException" ∈ gw := gch9 _ (List.mem_of_getElem? (i := 9) rfl)
theorem ml_X9_83 : Cond.methodLink RX9 83 yX4_dropPart ∈ gw := gch9 _ (List.mem_of_getElem? (i := 10) rfl)
theorem im_X4_dropPart : Cond.instanceMethod yX4_dropPart ∈ gw := gch9 _ (List.mem_of_getElem? (i := 11) rfl)
theorem se_X4_dropPart : Cond.selects RX4 yX4_dropPart yX4_dropPart ∈ gw := gch9 _ (List.mem_of_getElem? (i := 12) rfl)
theorem co_X4_dropPart : Cond.code yX4_dropPart cX4_dropPart 2 none ∈ gw := gch9 _ (List.mem_of_getElem? (i := 13) rfl)
theorem ml_X4_41 : Cond.methodLink RX4 41 yX7_dropRow ∈ gw := gch9 _ (List.mem_of_getElem? (i := 14) rfl)
theorem im_X7_dropRow : Cond.instanceMethod yX7_dropRow ∈ gw := gch9 _ (List.mem_of_getElem? (i := 15) rfl)
theorem se_X7_dropRow : Cond.selects RX7 yX7_dropRow yX7_dropRow ∈ gw := gch9 _ (List.mem_of_getElem? (i := 16) rfl)
theorem co_X7_dropRow : Cond.code yX7_dropRow cX7_dropRow 4 none ∈ gw := gch9 _ (List.mem_of_getElem? (i := 17) rfl)
theorem ml_X7_15 : Cond.methodLink RX7 15 yX7_get ∈ gw := gch9 _ (List.mem_of_getElem? (i := 18) rfl)
theorem im_X7_get : Cond.instanceMethod yX7_get ∈ gw := gch9 _ (List.mem_of_getElem? (i := 19) rfl)
theorem se_X7_get : Cond.selects RX7 yX7_get yX7_get ∈ gw := gch9 _ (List.mem_of_getElem? (i := 20) rfl)
theorem co_X7_get : Cond.code yX7_get cX7_get 4 (some .int) ∈ gw := gch9 _ (List.mem_of_getElem? (i := 21) rfl)
theorem ml_X7_19 : Cond.methodLink RX7 19 yX7_set ∈ gw := gch9 _ (List.mem_of_getElem? (i := 22) rfl)
theorem ml_L_94 : Cond.methodLink RL 94 yX10_removePart ∈ gw := gch9 _ (List.mem_of_getElem? (i := 23) rfl)
theorem im_X10_removePart : Cond.instanceMethod yX10_removePart ∈ gw := gch10 _ (List.mem_of_getElem? (i := 0) rfl)
theorem se_X10_removePart : Cond.selects RX10 yX10_removePart yX10_removePart ∈ gw := gch10 _ (List.mem_of_getElem? (i := 1) rfl)
theorem co_X10_removePart : Cond.code yX10_removePart cX10_removePart 3 (some .int) ∈ gw := gch10 _ (List.mem_of_getElem? (i := 2) rfl)
theorem ml_X10_113 : Cond.methodLink RX10 113 yX10_isPart ∈ gw := gch10 _ (List.mem_of_getElem? (i := 3) rfl)
theorem im_X10_isPart : Cond.instanceMethod yX10_isPart ∈ gw := gch10 _ (List.mem_of_getElem? (i := 4) rfl)
theorem se_X10_isPart : Cond.selects RX10 yX10_isPart yX10_isPart ∈ gw := gch10 _ (List.mem_of_getElem? (i := 5) rfl)
theorem co_X10_isPart : Cond.code yX10_isPart cX10_isPart 2 (some .boolean) ∈ gw := gch10 _ (List.mem_of_getElem? (i := 6) rfl)
theorem ml_X10_116 : Cond.methodLink RX10 116 yX10_removeFrom ∈ gw := gch10 _ (List.mem_of_getElem? (i := 7) rfl)
theorem im_X10_removeFrom : Cond.instanceMethod yX10_removeFrom ∈ gw := gch10 _ (List.mem_of_getElem? (i := 8) rfl)
theorem se_X10_removeFrom : Cond.selects RX10 yX10_removeFrom yX10_removeFrom ∈ gw := gch10 _ (List.mem_of_getElem? (i := 9) rfl)
theorem co_X10_removeFrom : Cond.code yX10_removeFrom cX10_removeFrom 4 none ∈ gw := gch10 _ (List.mem_of_getElem? (i := 10) rfl)
theorem ml_L_95 : Cond.methodLink RL 95 yL_weigh ∈ gw := gch10 _ (List.mem_of_getElem? (i := 11) rfl)
theorem st_L_weigh : Cond.static yL_weigh ∈ gw := gch10 _ (List.mem_of_getElem? (i := 12) rfl)
theorem cx_L_weigh : Cond.codeWith yL_weigh cL_weigh 6 (some .int) [(0, 12, 15, 20), (0, 12, 19, 13), (0, 12, 23, 15)] ∈ gw := gch10 _ (List.mem_of_getElem? (i := 13) rfl)
theorem ml_L_22 : Cond.methodLink RL 22 yX9_weigh ∈ gw := gch10 _ (List.mem_of_getElem? (i := 14) rfl)
theorem im_X9_weigh : Cond.instanceMethod yX9_weigh ∈ gw := gch10 _ (List.mem_of_getElem? (i := 15) rfl)
theorem se_X9_weigh : Cond.selects RX9 yX9_weigh yX9_weigh ∈ gw := gch10 _ (List.mem_of_getElem? (i := 16) rfl)
theorem co_X9_weigh : Cond.code yX9_weigh cX9_weigh 5 (some .int) ∈ gw := gch10 _ (List.mem_of_getElem? (i := 17) rfl)
theorem fl_X9_92 : Cond.fieldLink RX9 92 "RareFaults$Plant" "weights" "LRareFaults$Table;" ∈ gw := gch10 _ (List.mem_of_getElem? (i := 18) rfl)
theorem ml_X9_86 : Cond.methodLink RX9 86 yX9_requireLoad ∈ gw := gch10 _ (List.mem_of_getElem? (i := 19) rfl)
theorem st_X9_requireLoad : Cond.static yX9_requireLoad ∈ gw := gch10 _ (List.mem_of_getElem? (i := 20) rfl)
theorem co_X9_requireLoad : Cond.code yX9_requireLoad cX9_requireLoad 1 none ∈ gw := gch10 _ (List.mem_of_getElem? (i := 21) rfl)
theorem ml_X9_89 : Cond.methodLink RX9 89 yX9_requireRange ∈ gw := gch10 _ (List.mem_of_getElem? (i := 22) rfl)
theorem st_X9_requireRange : Cond.static yX9_requireRange ∈ gw := gch10 _ (List.mem_of_getElem? (i := 23) rfl)
theorem co_X9_requireRange : Cond.code yX9_requireRange cX9_requireRange 3 none ∈ gw := gch11 _ (List.mem_of_getElem? (i := 0) rfl)
theorem ml_X9_96 : Cond.methodLink RX9 96 yX7_get ∈ gw := gch11 _ (List.mem_of_getElem? (i := 1) rfl)
theorem ml_X9_102 : Cond.methodLink RX9 102 yX7_totalOf ∈ gw := gch11 _ (List.mem_of_getElem? (i := 2) rfl)
theorem im_X7_totalOf : Cond.instanceMethod yX7_totalOf ∈ gw := gch11 _ (List.mem_of_getElem? (i := 3) rfl)
theorem se_X7_totalOf : Cond.selects RX7 yX7_totalOf yX7_totalOf ∈ gw := gch11 _ (List.mem_of_getElem? (i := 4) rfl)
theorem co_X7_totalOf : Cond.code yX7_totalOf cX7_totalOf 4 (some .int) ∈ gw := gch11 _ (List.mem_of_getElem? (i := 5) rfl)
theorem ml_X9_108 : Cond.methodLink RX9 108 yX4_setWeight ∈ gw := gch11 _ (List.mem_of_getElem? (i := 6) rfl)
theorem im_X4_setWeight : Cond.instanceMethod yX4_setWeight ∈ gw := gch11 _ (List.mem_of_getElem? (i := 7) rfl)
theorem se_X4_setWeight : Cond.selects RX4 yX4_setWeight yX4_setWeight ∈ gw := gch11 _ (List.mem_of_getElem? (i := 8) rfl)
theorem co_X4_setWeight : Cond.code yX4_setWeight cX4_setWeight 4 none ∈ gw := gch11 _ (List.mem_of_getElem? (i := 9) rfl)
theorem ml_X4_49 : Cond.methodLink RX4 49 yX7_get ∈ gw := gch11 _ (List.mem_of_getElem? (i := 10) rfl)
theorem ml_L_98 : Cond.methodLink RL 98 yX10_weigh ∈ gw := gch11 _ (List.mem_of_getElem? (i := 11) rfl)
theorem im_X10_weigh : Cond.instanceMethod yX10_weigh ∈ gw := gch11 _ (List.mem_of_getElem? (i := 12) rfl)
theorem se_X10_weigh : Cond.selects RX10 yX10_weigh yX10_weigh ∈ gw := gch11 _ (List.mem_of_getElem? (i := 13) rfl)
theorem co_X10_weigh : Cond.code yX10_weigh cX10_weigh 6 (some .int) ∈ gw := gch11 _ (List.mem_of_getElem? (i := 14) rfl)
theorem ml_X10_68 : Cond.methodLink RX10 68 yX10_totalOf ∈ gw := gch11 _ (List.mem_of_getElem? (i := 15) rfl)
theorem im_X10_totalOf : Cond.instanceMethod yX10_totalOf ∈ gw := gch11 _ (List.mem_of_getElem? (i := 16) rfl)
theorem se_X10_totalOf : Cond.selects RX10 yX10_totalOf yX10_totalOf ∈ gw := gch11 _ (List.mem_of_getElem? (i := 17) rfl)
theorem co_X10_totalOf : Cond.code yX10_totalOf cX10_totalOf 4 (some .int) ∈ gw := gch11 _ (List.mem_of_getElem? (i := 18) rfl)
theorem ml_X10_54 : Cond.methodLink RX10 54 yX10_tiltedOf ∈ gw := gch11 _ (List.mem_of_getElem? (i := 19) rfl)
theorem im_X10_tiltedOf : Cond.instanceMethod yX10_tiltedOf ∈ gw := gch11 _ (List.mem_of_getElem? (i := 20) rfl)
theorem se_X10_tiltedOf : Cond.selects RX10 yX10_tiltedOf yX10_tiltedOf ∈ gw := gch11 _ (List.mem_of_getElem? (i := 21) rfl)
theorem co_X10_tiltedOf : Cond.code yX10_tiltedOf cX10_tiltedOf 3 (some .int) ∈ gw := gch11 _ (List.mem_of_getElem? (i := 22) rfl)
theorem ml_L_99 : Cond.methodLink RL 99 yL_tilt ∈ gw := gch11 _ (List.mem_of_getElem? (i := 23) rfl)
theorem st_L_tilt : Cond.static yL_tilt ∈ gw := gch12 _ (List.mem_of_getElem? (i := 0) rfl)
theorem cx_L_tilt : Cond.codeWith yL_tilt cL_tilt 6 (some .int) [(0, 12, 15, 20), (0, 12, 19, 13), (0, 12, 23, 15)] ∈ gw := gch12 _ (List.mem_of_getElem? (i := 1) rfl)
theorem ml_L_26 : Cond.methodLink RL 26 yX9_tilt ∈ gw := gch12 _ (List.mem_of_getElem? (i := 2) rfl)
theorem im_X9_tilt : Cond.instanceMethod yX9_tilt ∈ gw := gch12 _ (List.mem_of_getElem? (i := 3) rfl)
theorem se_X9_tilt : Cond.selects RX9 yX9_tilt yX9_tilt ∈ gw := gch12 _ (List.mem_of_getElem? (i := 4) rfl)
theorem co_X9_tilt : Cond.code yX9_tilt cX9_tilt 5 (some .int) ∈ gw := gch12 _ (List.mem_of_getElem? (i := 5) rfl)
theorem fl_X9_113 : Cond.fieldLink RX9 113 "RareFaults$Plant" "tilted" "LRareFaults$Table;" ∈ gw := gch12 _ (List.mem_of_getElem? (i := 6) rfl)
theorem ml_X9_116 : Cond.methodLink RX9 116 yX4_setTilted ∈ gw := gch12 _ (List.mem_of_getElem? (i := 7) rfl)
theorem im_X4_setTilted : Cond.instanceMethod yX4_setTilted ∈ gw := gch12 _ (List.mem_of_getElem? (i := 8) rfl)
theorem se_X4_setTilted : Cond.selects RX4 yX4_setTilted yX4_setTilted ∈ gw := gch12 _ (List.mem_of_getElem? (i := 9) rfl)
theorem co_X4_setTilted : Cond.code yX4_setTilted cX4_setTilted 4 none ∈ gw := gch12 _ (List.mem_of_getElem? (i := 10) rfl)
theorem ml_L_101 : Cond.methodLink RL 101 yX10_tilt ∈ gw := gch12 _ (List.mem_of_getElem? (i := 11) rfl)
theorem im_X10_tilt : Cond.instanceMethod yX10_tilt ∈ gw := gch12 _ (List.mem_of_getElem? (i := 12) rfl)
theorem se_X10_tilt : Cond.selects RX10 yX10_tilt yX10_tilt ∈ gw := gch12 _ (List.mem_of_getElem? (i := 13) rfl)
theorem co_X10_tilt : Cond.code yX10_tilt cX10_tilt 6 (some .int) ∈ gw := gch12 _ (List.mem_of_getElem? (i := 14) rfl)
theorem ml_L_102 : Cond.methodLink RL 102 yL_tiltAll ∈ gw := gch12 _ (List.mem_of_getElem? (i := 15) rfl)
theorem st_L_tiltAll : Cond.static yL_tiltAll ∈ gw := gch12 _ (List.mem_of_getElem? (i := 16) rfl)
theorem cx_L_tiltAll : Cond.codeWith yL_tiltAll cL_tiltAll 4 (some .int) [(0, 9, 12, 13)] ∈ gw := gch12 _ (List.mem_of_getElem? (i := 17) rfl)
theorem ml_L_29 : Cond.methodLink RL 29 yX9_tiltAll ∈ gw := gch12 _ (List.mem_of_getElem? (i := 18) rfl)
theorem im_X9_tiltAll : Cond.instanceMethod yX9_tiltAll ∈ gw := gch12 _ (List.mem_of_getElem? (i := 19) rfl)
theorem se_X9_tiltAll : Cond.selects RX9 yX9_tiltAll yX9_tiltAll ∈ gw := gch12 _ (List.mem_of_getElem? (i := 20) rfl)
theorem co_X9_tiltAll : Cond.code yX9_tiltAll cX9_tiltAll 2 (some .int) ∈ gw := gch12 _ (List.mem_of_getElem? (i := 21) rfl)
theorem ml_X9_119 : Cond.methodLink RX9 119 yX4_tiltBy ∈ gw := gch12 _ (List.mem_of_getElem? (i := 22) rfl)
theorem im_X4_tiltBy : Cond.instanceMethod yX4_tiltBy ∈ gw := gch12 _ (List.mem_of_getElem? (i := 23) rfl)
theorem se_X4_tiltBy : Cond.selects RX4 yX4_tiltBy yX4_tiltBy ∈ gw := gch13 _ (List.mem_of_getElem? (i := 0) rfl)
theorem co_X4_tiltBy : Cond.code yX4_tiltBy cX4_tiltBy 5 none ∈ gw := gch13 _ (List.mem_of_getElem? (i := 1) rfl)
theorem ml_X4_53 : Cond.methodLink RX4 53 Lib.Math.min.name ∈ gw := gch13 _ (List.mem_of_getElem? (i := 2) rfl)
theorem ml_X9_122 : Cond.methodLink RX9 122 yX4_sumOfTiltedTotals ∈ gw := gch13 _ (List.mem_of_getElem? (i := 3) rfl)
theorem im_X4_sumOfTiltedTotals : Cond.instanceMethod yX4_sumOfTiltedTotals ∈ gw := gch13 _ (List.mem_of_getElem? (i := 4) rfl)
theorem se_X4_sumOfTiltedTotals : Cond.selects RX4 yX4_sumOfTiltedTotals yX4_sumOfTiltedTotals ∈ gw := gch13 _ (List.mem_of_getElem? (i := 5) rfl)
theorem co_X4_sumOfTiltedTotals : Cond.code yX4_sumOfTiltedTotals cX4_sumOfTiltedTotals 3 (some .int) ∈ gw := gch13 _ (List.mem_of_getElem? (i := 6) rfl)
theorem ml_X4_58 : Cond.methodLink RX4 58 yX7_totalOf ∈ gw := gch13 _ (List.mem_of_getElem? (i := 7) rfl)
theorem ml_L_104 : Cond.methodLink RL 104 yX10_tiltAll ∈ gw := gch13 _ (List.mem_of_getElem? (i := 8) rfl)
theorem im_X10_tiltAll : Cond.instanceMethod yX10_tiltAll ∈ gw := gch13 _ (List.mem_of_getElem? (i := 9) rfl)
theorem se_X10_tiltAll : Cond.selects RX10 yX10_tiltAll yX10_tiltAll ∈ gw := gch13 _ (List.mem_of_getElem? (i := 10) rfl)
theorem co_X10_tiltAll : Cond.code yX10_tiltAll cX10_tiltAll 7 (some .int) ∈ gw := gch13 _ (List.mem_of_getElem? (i := 11) rfl)
theorem ml_X10_64 : Cond.methodLink RX10 64 yX10_tiltedTotalOf ∈ gw := gch13 _ (List.mem_of_getElem? (i := 12) rfl)
theorem im_X10_tiltedTotalOf : Cond.instanceMethod yX10_tiltedTotalOf ∈ gw := gch13 _ (List.mem_of_getElem? (i := 13) rfl)
theorem se_X10_tiltedTotalOf : Cond.selects RX10 yX10_tiltedTotalOf yX10_tiltedTotalOf ∈ gw := gch13 _ (List.mem_of_getElem? (i := 14) rfl)
theorem co_X10_tiltedTotalOf : Cond.code yX10_tiltedTotalOf cX10_tiltedTotalOf 4 (some .int) ∈ gw := gch13 _ (List.mem_of_getElem? (i := 15) rfl)
theorem ml_L_105 : Cond.methodLink RL 105 yL_limit ∈ gw := gch13 _ (List.mem_of_getElem? (i := 16) rfl)
theorem st_L_limit : Cond.static yL_limit ∈ gw := gch13 _ (List.mem_of_getElem? (i := 17) rfl)
theorem cx_L_limit : Cond.codeWith yL_limit cL_limit 4 (some .int) [(0, 9, 12, 13)] ∈ gw := gch13 _ (List.mem_of_getElem? (i := 18) rfl)
theorem ml_L_32 : Cond.methodLink RL 32 yX9_limit ∈ gw := gch13 _ (List.mem_of_getElem? (i := 19) rfl)
theorem im_X9_limit : Cond.instanceMethod yX9_limit ∈ gw := gch13 _ (List.mem_of_getElem? (i := 20) rfl)
theorem se_X9_limit : Cond.selects RX9 yX9_limit yX9_limit ∈ gw := gch13 _ (List.mem_of_getElem? (i := 21) rfl)
theorem co_X9_limit : Cond.code yX9_limit cX9_limit 3 (some .int) ∈ gw := gch13 _ (List.mem_of_getElem? (i := 22) rfl)
theorem fl_X9_125 : Cond.fieldLink RX9 125 "RareFaults$Plant" "limit" "I" ∈ gw := gch13 _ (List.mem_of_getElem? (i := 23) rfl)
theorem ml_X9_128 : Cond.methodLink RX9 128 yX4_setLimit ∈ gw := gch14 _ (List.mem_of_getElem? (i := 0) rfl)
theorem im_X4_setLimit : Cond.instanceMethod yX4_setLimit ∈ gw := gch14 _ (List.mem_of_getElem? (i := 1) rfl)
theorem se_X4_setLimit : Cond.selects RX4 yX4_setLimit yX4_setLimit ∈ gw := gch14 _ (List.mem_of_getElem? (i := 2) rfl)
theorem co_X4_setLimit : Cond.code yX4_setLimit cX4_setLimit 2 none ∈ gw := gch14 _ (List.mem_of_getElem? (i := 3) rfl)
theorem ml_L_107 : Cond.methodLink RL 107 yX10_limit ∈ gw := gch14 _ (List.mem_of_getElem? (i := 4) rfl)
theorem im_X10_limit : Cond.instanceMethod yX10_limit ∈ gw := gch14 _ (List.mem_of_getElem? (i := 5) rfl)
theorem se_X10_limit : Cond.selects RX10 yX10_limit yX10_limit ∈ gw := gch14 _ (List.mem_of_getElem? (i := 6) rfl)
theorem co_X10_limit : Cond.code yX10_limit cX10_limit 4 (some .int) ∈ gw := gch14 _ (List.mem_of_getElem? (i := 7) rfl)
theorem ml_X10_120 : Cond.methodLink RX10 120 yX10_isLimit ∈ gw := gch14 _ (List.mem_of_getElem? (i := 8) rfl)
theorem st_X10_isLimit : Cond.static yX10_isLimit ∈ gw := gch14 _ (List.mem_of_getElem? (i := 9) rfl)
theorem co_X10_isLimit : Cond.code yX10_isLimit cX10_isLimit 1 (some .boolean) ∈ gw := gch14 _ (List.mem_of_getElem? (i := 10) rfl)
theorem ml_L_108 : Cond.methodLink RL 108 yL_seed ∈ gw := gch14 _ (List.mem_of_getElem? (i := 11) rfl)
theorem st_L_seed : Cond.static yL_seed ∈ gw := gch14 _ (List.mem_of_getElem? (i := 12) rfl)
theorem cx_L_seed : Cond.codeWith yL_seed cL_seed 4 (some .int) [(0, 9, 12, 13)] ∈ gw := gch14 _ (List.mem_of_getElem? (i := 13) rfl)
theorem ml_L_35 : Cond.methodLink RL 35 yX9_seed ∈ gw := gch14 _ (List.mem_of_getElem? (i := 14) rfl)
theorem im_X9_seed : Cond.instanceMethod yX9_seed ∈ gw := gch14 _ (List.mem_of_getElem? (i := 15) rfl)
theorem se_X9_seed : Cond.selects RX9 yX9_seed yX9_seed ∈ gw := gch14 _ (List.mem_of_getElem? (i := 16) rfl)
theorem co_X9_seed : Cond.code yX9_seed cX9_seed 3 (some .int) ∈ gw := gch14 _ (List.mem_of_getElem? (i := 17) rfl)
theorem fl_X9_133 : Cond.fieldLink RX9 133 "RareFaults$Plant" "seed" "I" ∈ gw := gch14 _ (List.mem_of_getElem? (i := 18) rfl)
theorem ml_L_110 : Cond.methodLink RL 110 yX10_seed ∈ gw := gch14 _ (List.mem_of_getElem? (i := 19) rfl)
theorem im_X10_seed : Cond.instanceMethod yX10_seed ∈ gw := gch14 _ (List.mem_of_getElem? (i := 20) rfl)
theorem se_X10_seed : Cond.selects RX10 yX10_seed yX10_seed ∈ gw := gch14 _ (List.mem_of_getElem? (i := 21) rfl)
theorem co_X10_seed : Cond.code yX10_seed cX10_seed 3 (some .int) ∈ gw := gch14 _ (List.mem_of_getElem? (i := 22) rfl)
theorem ml_L_111 : Cond.methodLink RL 111 yL_draw ∈ gw := gch14 _ (List.mem_of_getElem? (i := 23) rfl)
theorem st_L_draw : Cond.static yL_draw ∈ gw := gch15 _ (List.mem_of_getElem? (i := 0) rfl)
theorem cx_L_draw : Cond.codeWith yL_draw cL_draw 4 (some .int) [(0, 9, 12, 13), (0, 9, 15, 15)] ∈ gw := gch15 _ (List.mem_of_getElem? (i := 1) rfl)
theorem ml_L_38 : Cond.methodLink RL 38 yX9_draw ∈ gw := gch15 _ (List.mem_of_getElem? (i := 2) rfl)
theorem im_X9_draw : Cond.instanceMethod yX9_draw ∈ gw := gch15 _ (List.mem_of_getElem? (i := 3) rfl)
theorem se_X9_draw : Cond.selects RX9 yX9_draw yX9_draw ∈ gw := gch15 _ (List.mem_of_getElem? (i := 4) rfl)
theorem co_X9_draw : Cond.code yX9_draw cX9_draw 4 (some .int) ∈ gw := gch15 _ (List.mem_of_getElem? (i := 5) rfl)
theorem fl_X9_136 : Cond.fieldLink RX9 136 "RareFaults$Plant" "samples" "LRareFaults$Samples;" ∈ gw := gch15 _ (List.mem_of_getElem? (i := 6) rfl)
theorem fl_X9_140 : Cond.fieldLink RX9 140 "RareFaults$Samples" "number" "I" ∈ gw := gch15 _ (List.mem_of_getElem? (i := 7) rfl)
theorem fl_X9_147 : Cond.fieldLink RX9 147 "RareFaults$Samples" "faults" "I" ∈ gw := gch15 _ (List.mem_of_getElem? (i := 8) rfl)
theorem ml_X9_150 : Cond.methodLink RX9 150 yX4_drawRow ∈ gw := gch15 _ (List.mem_of_getElem? (i := 9) rfl)
theorem im_X4_drawRow : Cond.instanceMethod yX4_drawRow ∈ gw := gch15 _ (List.mem_of_getElem? (i := 10) rfl)
theorem se_X4_drawRow : Cond.selects RX4 yX4_drawRow yX4_drawRow ∈ gw := gch15 _ (List.mem_of_getElem? (i := 11) rfl)
theorem co_X4_drawRow : Cond.code yX4_drawRow cX4_drawRow 6 none ∈ gw := gch15 _ (List.mem_of_getElem? (i := 12) rfl)
theorem ml_X4_68 : Cond.methodLink RX4 68 yX4_drawLoad ∈ gw := gch15 _ (List.mem_of_getElem? (i := 13) rfl)
theorem im_X4_drawLoad : Cond.instanceMethod yX4_drawLoad ∈ gw := gch15 _ (List.mem_of_getElem? (i := 14) rfl)
theorem se_X4_drawLoad : Cond.selects RX4 yX4_drawLoad yX4_drawLoad ∈ gw := gch15 _ (List.mem_of_getElem? (i := 15) rfl)
theorem co_X4_drawLoad : Cond.code yX4_drawLoad cX4_drawLoad 6 (some .int) ∈ gw := gch15 _ (List.mem_of_getElem? (i := 16) rfl)
theorem kk_X4_83 : Cond.constantLong RX4 83 (1103515245) ∈ gw := gch15 _ (List.mem_of_getElem? (i := 17) rfl)
theorem kk_X4_85 : Cond.constantLong RX4 85 (12345) ∈ gw := gch15 _ (List.mem_of_getElem? (i := 18) rfl)
theorem kk_X4_87 : Cond.constantLong RX4 87 (2147483648) ∈ gw := gch15 _ (List.mem_of_getElem? (i := 19) rfl)
theorem kk_X4_89 : Cond.constant RX4 89 (65536) ∈ gw := gch15 _ (List.mem_of_getElem? (i := 20) rfl)
theorem ml_X4_71 : Cond.methodLink RX4 71 yX5_setLatestLoad ∈ gw := gch15 _ (List.mem_of_getElem? (i := 21) rfl)
theorem im_X5_setLatestLoad : Cond.instanceMethod yX5_setLatestLoad ∈ gw := gch15 _ (List.mem_of_getElem? (i := 22) rfl)
theorem se_X5_setLatestLoad : Cond.selects RX5 yX5_setLatestLoad yX5_setLatestLoad ∈ gw := gch15 _ (List.mem_of_getElem? (i := 23) rfl)
theorem co_X5_setLatestLoad : Cond.code yX5_setLatestLoad cX5_setLatestLoad 3 none ∈ gw := gch16 _ (List.mem_of_getElem? (i := 0) rfl)
theorem ml_X4_75 : Cond.methodLink RX4 75 yX4_corrected ∈ gw := gch16 _ (List.mem_of_getElem? (i := 1) rfl)
theorem im_X4_corrected : Cond.instanceMethod yX4_corrected ∈ gw := gch16 _ (List.mem_of_getElem? (i := 2) rfl)
theorem se_X4_corrected : Cond.selects RX4 yX4_corrected yX4_corrected ∈ gw := gch16 _ (List.mem_of_getElem? (i := 3) rfl)
theorem co_X4_corrected : Cond.code yX4_corrected cX4_corrected 7 (some .double) ∈ gw := gch16 _ (List.mem_of_getElem? (i := 4) rfl)
theorem ml_X4_79 : Cond.methodLink RX4 79 yX5_add ∈ gw := gch16 _ (List.mem_of_getElem? (i := 5) rfl)
theorem im_X5_add : Cond.instanceMethod yX5_add ∈ gw := gch16 _ (List.mem_of_getElem? (i := 6) rfl)
theorem se_X5_add : Cond.selects RX5 yX5_add yX5_add ∈ gw := gch16 _ (List.mem_of_getElem? (i := 7) rfl)
theorem co_X5_add : Cond.code yX5_add cX5_add 4 none ∈ gw := gch16 _ (List.mem_of_getElem? (i := 8) rfl)
theorem ml_L_113 : Cond.methodLink RL 113 yX10_draw ∈ gw := gch16 _ (List.mem_of_getElem? (i := 9) rfl)
theorem im_X10_draw : Cond.instanceMethod yX10_draw ∈ gw := gch16 _ (List.mem_of_getElem? (i := 10) rfl)
theorem se_X10_draw : Cond.selects RX10 yX10_draw yX10_draw ∈ gw := gch16 _ (List.mem_of_getElem? (i := 11) rfl)
theorem co_X10_draw : Cond.code yX10_draw cX10_draw 5 (some .int) ∈ gw := gch16 _ (List.mem_of_getElem? (i := 12) rfl)
theorem ml_X10_123 : Cond.methodLink RX10 123 yX10_drawRow ∈ gw := gch16 _ (List.mem_of_getElem? (i := 13) rfl)
theorem im_X10_drawRow : Cond.instanceMethod yX10_drawRow ∈ gw := gch16 _ (List.mem_of_getElem? (i := 14) rfl)
theorem se_X10_drawRow : Cond.selects RX10 yX10_drawRow yX10_drawRow ∈ gw := gch16 _ (List.mem_of_getElem? (i := 15) rfl)
theorem co_X10_drawRow : Cond.code yX10_drawRow cX10_drawRow 6 (some .int) ∈ gw := gch16 _ (List.mem_of_getElem? (i := 16) rfl)
theorem ml_X10_71 : Cond.methodLink RX10 71 yX10_drawLoad ∈ gw := gch16 _ (List.mem_of_getElem? (i := 17) rfl)
theorem im_X10_drawLoad : Cond.instanceMethod yX10_drawLoad ∈ gw := gch16 _ (List.mem_of_getElem? (i := 18) rfl)
theorem se_X10_drawLoad : Cond.selects RX10 yX10_drawLoad yX10_drawLoad ∈ gw := gch16 _ (List.mem_of_getElem? (i := 19) rfl)
theorem co_X10_drawLoad : Cond.code yX10_drawLoad cX10_drawLoad 7 (some .int) ∈ gw := gch16 _ (List.mem_of_getElem? (i := 20) rfl)
theorem kk_X10_57 : Cond.constantLong RX10 57 (1103515245) ∈ gw := gch16 _ (List.mem_of_getElem? (i := 21) rfl)
theorem kk_X10_59 : Cond.constantLong RX10 59 (12345) ∈ gw := gch16 _ (List.mem_of_getElem? (i := 22) rfl)
theorem kk_X10_61 : Cond.constantLong RX10 61 (2147483648) ∈ gw := gch16 _ (List.mem_of_getElem? (i := 23) rfl)
theorem kk_X10_63 : Cond.constant RX10 63 (65536) ∈ gw := gch17 _ (List.mem_of_getElem? (i := 0) rfl)
theorem ml_X10_74 : Cond.methodLink RX10 74 yX10_corrected ∈ gw := gch17 _ (List.mem_of_getElem? (i := 1) rfl)
theorem im_X10_corrected : Cond.instanceMethod yX10_corrected ∈ gw := gch17 _ (List.mem_of_getElem? (i := 2) rfl)
theorem se_X10_corrected : Cond.selects RX10 yX10_corrected yX10_corrected ∈ gw := gch17 _ (List.mem_of_getElem? (i := 3) rfl)
theorem co_X10_corrected : Cond.code yX10_corrected cX10_corrected 7 (some .double) ∈ gw := gch17 _ (List.mem_of_getElem? (i := 4) rfl)
theorem ml_L_114 : Cond.methodLink RL 114 yX9_forget ∈ gw := gch17 _ (List.mem_of_getElem? (i := 5) rfl)
theorem im_X9_forget : Cond.instanceMethod yX9_forget ∈ gw := gch17 _ (List.mem_of_getElem? (i := 6) rfl)
theorem se_X9_forget : Cond.selects RX9 yX9_forget yX9_forget ∈ gw := gch17 _ (List.mem_of_getElem? (i := 7) rfl)
theorem co_X9_forget : Cond.code yX9_forget cX9_forget 2 (some .int) ∈ gw := gch17 _ (List.mem_of_getElem? (i := 8) rfl)
theorem ml_X9_153 : Cond.methodLink RX9 153 yX5_clear ∈ gw := gch17 _ (List.mem_of_getElem? (i := 9) rfl)
theorem ml_L_117 : Cond.methodLink RL 117 yX10_forget ∈ gw := gch17 _ (List.mem_of_getElem? (i := 10) rfl)
theorem im_X10_forget : Cond.instanceMethod yX10_forget ∈ gw := gch17 _ (List.mem_of_getElem? (i := 11) rfl)
theorem se_X10_forget : Cond.selects RX10 yX10_forget yX10_forget ∈ gw := gch17 _ (List.mem_of_getElem? (i := 12) rfl)
theorem co_X10_forget : Cond.code yX10_forget cX10_forget 1 (some .int) ∈ gw := gch17 _ (List.mem_of_getElem? (i := 13) rfl)
theorem ml_L_118 : Cond.methodLink RL 118 yL_append ∈ gw := gch17 _ (List.mem_of_getElem? (i := 14) rfl)
theorem st_L_append : Cond.static yL_append ∈ gw := gch17 _ (List.mem_of_getElem? (i := 15) rfl)
theorem cx_L_append : Cond.codeWith yL_append cL_append 4 (some .int) [(0, 9, 12, 13), (0, 9, 15, 15)] ∈ gw := gch17 _ (List.mem_of_getElem? (i := 16) rfl)
theorem ml_L_41 : Cond.methodLink RL 41 yX9_append ∈ gw := gch17 _ (List.mem_of_getElem? (i := 17) rfl)
theorem im_X9_append : Cond.instanceMethod yX9_append ∈ gw := gch17 _ (List.mem_of_getElem? (i := 18) rfl)
theorem se_X9_append : Cond.selects RX9 yX9_append yX9_append ∈ gw := gch17 _ (List.mem_of_getElem? (i := 19) rfl)
theorem co_X9_append : Cond.code yX9_append cX9_append 2 (some .int) ∈ gw := gch17 _ (List.mem_of_getElem? (i := 20) rfl)
theorem fl_X9_156 : Cond.fieldLink RX9 156 "RareFaults$Text" "length" "I" ∈ gw := gch17 _ (List.mem_of_getElem? (i := 21) rfl)
theorem ml_X9_161 : Cond.methodLink RX9 161 yX8_add ∈ gw := gch17 _ (List.mem_of_getElem? (i := 22) rfl)
theorem im_X8_add : Cond.instanceMethod yX8_add ∈ gw := gch17 _ (List.mem_of_getElem? (i := 23) rfl)
theorem se_X8_add : Cond.selects RX8 yX8_add yX8_add ∈ gw := gch18 _ (List.mem_of_getElem? (i := 0) rfl)
theorem co_X8_add : Cond.code yX8_add cX8_add 2 none ∈ gw := gch18 _ (List.mem_of_getElem? (i := 1) rfl)
theorem ml_L_120 : Cond.methodLink RL 120 yX10_append ∈ gw := gch18 _ (List.mem_of_getElem? (i := 2) rfl)
theorem im_X10_append : Cond.instanceMethod yX10_append ∈ gw := gch18 _ (List.mem_of_getElem? (i := 3) rfl)
theorem se_X10_append : Cond.selects RX10 yX10_append yX10_append ∈ gw := gch18 _ (List.mem_of_getElem? (i := 4) rfl)
theorem co_X10_append : Cond.code yX10_append cX10_append 2 (some .int) ∈ gw := gch18 _ (List.mem_of_getElem? (i := 5) rfl)
theorem fl_X10_126 : Cond.fieldLink RX10 126 "RareFaultsModel" "length" "I" ∈ gw := gch18 _ (List.mem_of_getElem? (i := 6) rfl)
theorem ml_L_121 : Cond.methodLink RL 121 yX9_clearBuffer ∈ gw := gch18 _ (List.mem_of_getElem? (i := 7) rfl)
theorem im_X9_clearBuffer : Cond.instanceMethod yX9_clearBuffer ∈ gw := gch18 _ (List.mem_of_getElem? (i := 8) rfl)
theorem se_X9_clearBuffer : Cond.selects RX9 yX9_clearBuffer yX9_clearBuffer ∈ gw := gch18 _ (List.mem_of_getElem? (i := 9) rfl)
theorem co_X9_clearBuffer : Cond.code yX9_clearBuffer cX9_clearBuffer 2 (some .int) ∈ gw := gch18 _ (List.mem_of_getElem? (i := 10) rfl)
theorem ml_X9_164 : Cond.methodLink RX9 164 yX8_clear ∈ gw := gch18 _ (List.mem_of_getElem? (i := 11) rfl)
theorem im_X8_clear : Cond.instanceMethod yX8_clear ∈ gw := gch18 _ (List.mem_of_getElem? (i := 12) rfl)
theorem se_X8_clear : Cond.selects RX8 yX8_clear yX8_clear ∈ gw := gch18 _ (List.mem_of_getElem? (i := 13) rfl)
theorem co_X8_clear : Cond.code yX8_clear cX8_clear 1 none ∈ gw := gch18 _ (List.mem_of_getElem? (i := 14) rfl)
theorem ml_L_124 : Cond.methodLink RL 124 yX10_clearBuffer ∈ gw := gch18 _ (List.mem_of_getElem? (i := 15) rfl)
theorem im_X10_clearBuffer : Cond.instanceMethod yX10_clearBuffer ∈ gw := gch18 _ (List.mem_of_getElem? (i := 16) rfl)
theorem se_X10_clearBuffer : Cond.selects RX10 yX10_clearBuffer yX10_clearBuffer ∈ gw := gch18 _ (List.mem_of_getElem? (i := 17) rfl)
theorem co_X10_clearBuffer : Cond.code yX10_clearBuffer cX10_clearBuffer 2 (some .int) ∈ gw := gch18 _ (List.mem_of_getElem? (i := 18) rfl)
theorem ml_L_125 : Cond.methodLink RL 125 yX9_firstError ∈ gw := gch18 _ (List.mem_of_getElem? (i := 19) rfl)
theorem im_X9_firstError : Cond.instanceMethod yX9_firstError ∈ gw := gch18 _ (List.mem_of_getElem? (i := 20) rfl)
theorem se_X9_firstError : Cond.selects RX9 yX9_firstError yX9_firstError ∈ gw := gch18 _ (List.mem_of_getElem? (i := 21) rfl)
theorem co_X9_firstError : Cond.code yX9_firstError cX9_firstError 1 (some .int) ∈ gw := gch18 _ (List.mem_of_getElem? (i := 22) rfl)
theorem cl_X9_165 : Cond.classLink RX9 165 RX6 ∈ gw := gch18 _ (List.mem_of_getElem? (i := 23) rfl)
theorem is_X6 : Cond.instantiable RX6 3 ∈ gw := gch19 _ (List.mem_of_getElem? (i := 0) rfl)
theorem in_X6 : Cond.initialized RX6 ∈ gw := gch19 _ (List.mem_of_getElem? (i := 1) rfl)
theorem im_X6_init : Cond.instanceMethod yX6_init ∈ gw := gch19 _ (List.mem_of_getElem? (i := 2) rfl)
theorem co_X6_init : Cond.code yX6_init cX6_init 1 none ∈ gw := gch19 _ (List.mem_of_getElem? (i := 3) rfl)
theorem ml_X6_3 : Cond.methodLink RX6 3 objectInit ∈ gw := gch19 _ (List.mem_of_getElem? (i := 4) rfl)
theorem fl_X6_9 : Cond.fieldLink RX6 9 "RareFaults$Syntax" "parts" "I" ∈ gw := gch19 _ (List.mem_of_getElem? (i := 5) rfl)
theorem fl_X6_15 : Cond.fieldLink RX6 15 "RareFaults$Syntax" "digits" "I" ∈ gw := gch19 _ (List.mem_of_getElem? (i := 6) rfl)
theorem fl_X6_18 : Cond.fieldLink RX6 18 "RareFaults$Syntax" "isAboveZero" "Z" ∈ gw := gch19 _ (List.mem_of_getElem? (i := 7) rfl)
theorem ml_X9_168 : Cond.methodLink RX9 168 yX6_read ∈ gw := gch19 _ (List.mem_of_getElem? (i := 8) rfl)
theorem im_X6_read : Cond.instanceMethod yX6_read ∈ gw := gch19 _ (List.mem_of_getElem? (i := 9) rfl)
theorem se_X6_read : Cond.selects RX6 yX6_read yX6_read ∈ gw := gch19 _ (List.mem_of_getElem? (i := 10) rfl)
theorem co_X6_read : Cond.code yX6_read cX6_read 3 (some .int) ∈ gw := gch19 _ (List.mem_of_getElem? (i := 11) rfl)
theorem fl_X6_22 : Cond.fieldLink RX6 22 "RareFaults$Text" "length" "I" ∈ gw := gch19 _ (List.mem_of_getElem? (i := 12) rfl)
theorem ml_X6_27 : Cond.methodLink RX6 27 yX8_codeAt ∈ gw := gch19 _ (List.mem_of_getElem? (i := 13) rfl)
theorem im_X8_codeAt : Cond.instanceMethod yX8_codeAt ∈ gw := gch19 _ (List.mem_of_getElem? (i := 14) rfl)
theorem se_X8_codeAt : Cond.selects RX8 yX8_codeAt yX8_codeAt ∈ gw := gch19 _ (List.mem_of_getElem? (i := 15) rfl)
theorem co_X8_codeAt : Cond.code yX8_codeAt cX8_codeAt 2 (some .int) ∈ gw := gch19 _ (List.mem_of_getElem? (i := 16) rfl)
theorem ml_X6_31 : Cond.methodLink RX6 31 yX6_accepts ∈ gw := gch19 _ (List.mem_of_getElem? (i := 17) rfl)
theorem im_X6_accepts : Cond.instanceMethod yX6_accepts ∈ gw := gch19 _ (List.mem_of_getElem? (i := 18) rfl)
theorem se_X6_accepts : Cond.selects RX6 yX6_accepts yX6_accepts ∈ gw := gch19 _ (List.mem_of_getElem? (i := 19) rfl)
theorem co_X6_accepts : Cond.code yX6_accepts cX6_accepts 2 (some .boolean) ∈ gw := gch19 _ (List.mem_of_getElem? (i := 20) rfl)
theorem ml_X6_35 : Cond.methodLink RX6 35 yX6_acceptsNextPart ∈ gw := gch19 _ (List.mem_of_getElem? (i := 21) rfl)
theorem im_X6_acceptsNextPart : Cond.instanceMethod yX6_acceptsNextPart ∈ gw := gch19 _ (List.mem_of_getElem? (i := 22) rfl)
theorem se_X6_acceptsNextPart : Cond.selects RX6 yX6_acceptsNextPart yX6_acceptsNextPart ∈ gw := gch19 _ (List.mem_of_getElem? (i := 23) rfl)
theorem co_X6_acceptsNextPart : Cond.code yX6_acceptsNextPart cX6_acceptsNextPart 2 (some .boolean) ∈ gw := gch20 _ (List.mem_of_getElem? (i := 0) rfl)
theorem ml_X6_39 : Cond.methodLink RX6 39 yX6_acceptsDigit ∈ gw := gch20 _ (List.mem_of_getElem? (i := 1) rfl)
theorem im_X6_acceptsDigit : Cond.instanceMethod yX6_acceptsDigit ∈ gw := gch20 _ (List.mem_of_getElem? (i := 2) rfl)
theorem se_X6_acceptsDigit : Cond.selects RX6 yX6_acceptsDigit yX6_acceptsDigit ∈ gw := gch20 _ (List.mem_of_getElem? (i := 3) rfl)
theorem co_X6_acceptsDigit : Cond.code yX6_acceptsDigit cX6_acceptsDigit 2 (some .boolean) ∈ gw := gch20 _ (List.mem_of_getElem? (i := 4) rfl)
theorem ml_L_128 : Cond.methodLink RL 128 yX10_firstError ∈ gw := gch20 _ (List.mem_of_getElem? (i := 5) rfl)
theorem im_X10_firstError : Cond.instanceMethod yX10_firstError ∈ gw := gch20 _ (List.mem_of_getElem? (i := 6) rfl)
theorem se_X10_firstError : Cond.selects RX10 yX10_firstError yX10_firstError ∈ gw := gch20 _ (List.mem_of_getElem? (i := 7) rfl)
theorem co_X10_firstError : Cond.code yX10_firstError cX10_firstError 1 (some .int) ∈ gw := gch20 _ (List.mem_of_getElem? (i := 8) rfl)
theorem ml_X10_144 : Cond.methodLink RX10 144 yX10_rightUpTo ∈ gw := gch20 _ (List.mem_of_getElem? (i := 9) rfl)
theorem im_X10_rightUpTo : Cond.instanceMethod yX10_rightUpTo ∈ gw := gch20 _ (List.mem_of_getElem? (i := 10) rfl)
theorem se_X10_rightUpTo : Cond.selects RX10 yX10_rightUpTo yX10_rightUpTo ∈ gw := gch20 _ (List.mem_of_getElem? (i := 11) rfl)
theorem co_X10_rightUpTo : Cond.code yX10_rightUpTo cX10_rightUpTo 2 (some .int) ∈ gw := gch20 _ (List.mem_of_getElem? (i := 12) rfl)
theorem fl_X10_129 : Cond.fieldLink RX10 129 "RareFaultsModel" "read" "I" ∈ gw := gch20 _ (List.mem_of_getElem? (i := 13) rfl)
theorem ml_X10_138 : Cond.methodLink RX10 138 yX10_beginPart ∈ gw := gch20 _ (List.mem_of_getElem? (i := 14) rfl)
theorem im_X10_beginPart : Cond.instanceMethod yX10_beginPart ∈ gw := gch20 _ (List.mem_of_getElem? (i := 15) rfl)
theorem se_X10_beginPart : Cond.selects RX10 yX10_beginPart yX10_beginPart ∈ gw := gch20 _ (List.mem_of_getElem? (i := 16) rfl)
theorem co_X10_beginPart : Cond.code yX10_beginPart cX10_beginPart 2 none ∈ gw := gch20 _ (List.mem_of_getElem? (i := 17) rfl)
theorem fl_X10_132 : Cond.fieldLink RX10 132 "RareFaultsModel" "loads" "I" ∈ gw := gch20 _ (List.mem_of_getElem? (i := 18) rfl)
theorem fl_X10_135 : Cond.fieldLink RX10 135 "RareFaultsModel" "total" "I" ∈ gw := gch20 _ (List.mem_of_getElem? (i := 19) rfl)
theorem ml_X10_141 : Cond.methodLink RX10 141 yX10_takes ∈ gw := gch20 _ (List.mem_of_getElem? (i := 20) rfl)
theorem im_X10_takes : Cond.instanceMethod yX10_takes ∈ gw := gch20 _ (List.mem_of_getElem? (i := 21) rfl)
theorem se_X10_takes : Cond.selects RX10 yX10_takes yX10_takes ∈ gw := gch20 _ (List.mem_of_getElem? (i := 22) rfl)
theorem co_X10_takes : Cond.code yX10_takes cX10_takes 4 (some .boolean) ∈ gw := gch20 _ (List.mem_of_getElem? (i := 23) rfl)
theorem ml_L_129 : Cond.methodLink RL 129 yL_addAll ∈ gw := gch21 _ (List.mem_of_getElem? (i := 0) rfl)
theorem st_L_addAll : Cond.static yL_addAll ∈ gw := gch21 _ (List.mem_of_getElem? (i := 1) rfl)
theorem cx_L_addAll : Cond.codeWith yL_addAll cL_addAll 3 (some .int) [(0, 8, 11, 13), (0, 8, 14, 15)] ∈ gw := gch21 _ (List.mem_of_getElem? (i := 2) rfl)
theorem ml_L_44 : Cond.methodLink RL 44 yX9_addAll ∈ gw := gch21 _ (List.mem_of_getElem? (i := 3) rfl)
theorem im_X9_addAll : Cond.instanceMethod yX9_addAll ∈ gw := gch21 _ (List.mem_of_getElem? (i := 4) rfl)
theorem se_X9_addAll : Cond.selects RX9 yX9_addAll yX9_addAll ∈ gw := gch21 _ (List.mem_of_getElem? (i := 5) rfl)
theorem co_X9_addAll : Cond.code yX9_addAll cX9_addAll 2 (some .int) ∈ gw := gch21 _ (List.mem_of_getElem? (i := 6) rfl)
theorem fl_X9_178 : Cond.fieldLink RX9 178 "RareFaults$Syntax" "parts" "I" ∈ gw := gch21 _ (List.mem_of_getElem? (i := 7) rfl)
theorem ml_X9_172 : Cond.methodLink RX9 172 yX6_isPartComplete ∈ gw := gch21 _ (List.mem_of_getElem? (i := 8) rfl)
theorem im_X6_isPartComplete : Cond.instanceMethod yX6_isPartComplete ∈ gw := gch21 _ (List.mem_of_getElem? (i := 9) rfl)
theorem se_X6_isPartComplete : Cond.selects RX6 yX6_isPartComplete yX6_isPartComplete ∈ gw := gch21 _ (List.mem_of_getElem? (i := 10) rfl)
theorem co_X6_isPartComplete : Cond.code yX6_isPartComplete cX6_isPartComplete 1 (some .boolean) ∈ gw := gch21 _ (List.mem_of_getElem? (i := 11) rfl)
theorem ml_X9_181 : Cond.methodLink RX9 181 yX8_addPartsTo ∈ gw := gch21 _ (List.mem_of_getElem? (i := 12) rfl)
theorem im_X8_addPartsTo : Cond.instanceMethod yX8_addPartsTo ∈ gw := gch21 _ (List.mem_of_getElem? (i := 13) rfl)
theorem se_X8_addPartsTo : Cond.selects RX8 yX8_addPartsTo yX8_addPartsTo ∈ gw := gch21 _ (List.mem_of_getElem? (i := 14) rfl)
theorem co_X8_addPartsTo : Cond.code yX8_addPartsTo cX8_addPartsTo 6 none ∈ gw := gch21 _ (List.mem_of_getElem? (i := 15) rfl)
theorem ml_X8_19 : Cond.methodLink RX8 19 yX4_addEmptyPart ∈ gw := gch21 _ (List.mem_of_getElem? (i := 16) rfl)
theorem ml_X8_25 : Cond.methodLink RX8 25 yX8_codeAt ∈ gw := gch21 _ (List.mem_of_getElem? (i := 17) rfl)
theorem ml_X8_29 : Cond.methodLink RX8 29 yX4_setBothWeights ∈ gw := gch21 _ (List.mem_of_getElem? (i := 18) rfl)
theorem ml_L_132 : Cond.methodLink RL 132 yX10_addAll ∈ gw := gch21 _ (List.mem_of_getElem? (i := 19) rfl)
theorem im_X10_addAll : Cond.instanceMethod yX10_addAll ∈ gw := gch21 _ (List.mem_of_getElem? (i := 20) rfl)
theorem se_X10_addAll : Cond.selects RX10 yX10_addAll yX10_addAll ∈ gw := gch21 _ (List.mem_of_getElem? (i := 21) rfl)
theorem co_X10_addAll : Cond.code yX10_addAll cX10_addAll 5 (some .int) ∈ gw := gch21 _ (List.mem_of_getElem? (i := 22) rfl)
theorem ml_L_133 : Cond.methodLink RL 133 yL_undo ∈ gw := gch21 _ (List.mem_of_getElem? (i := 23) rfl)
theorem st_L_undo : Cond.static yL_undo ∈ gw := gch22 _ (List.mem_of_getElem? (i := 0) rfl)
theorem cx_L_undo : Cond.codeWith yL_undo cL_undo 3 (some .int) [(0, 8, 11, 15)] ∈ gw := gch22 _ (List.mem_of_getElem? (i := 1) rfl)
theorem ml_L_48 : Cond.methodLink RL 48 yX9_undo ∈ gw := gch22 _ (List.mem_of_getElem? (i := 2) rfl)
theorem im_X9_undo : Cond.instanceMethod yX9_undo ∈ gw := gch22 _ (List.mem_of_getElem? (i := 3) rfl)
theorem se_X9_undo : Cond.selects RX9 yX9_undo yX9_undo ∈ gw := gch22 _ (List.mem_of_getElem? (i := 4) rfl)
theorem co_X9_undo : Cond.code yX9_undo cX9_undo 1 (some .int) ∈ gw := gch22 _ (List.mem_of_getElem? (i := 5) rfl)
theorem fl_X9_184 : Cond.fieldLink RX9 184 "RareFaults$History" "number" "I" ∈ gw := gch22 _ (List.mem_of_getElem? (i := 6) rfl)
theorem ml_X9_187 : Cond.methodLink RX9 187 yX2_restore ∈ gw := gch22 _ (List.mem_of_getElem? (i := 7) rfl)
theorem im_X2_restore : Cond.instanceMethod yX2_restore ∈ gw := gch22 _ (List.mem_of_getElem? (i := 8) rfl)
theorem se_X2_restore : Cond.selects RX2 yX2_restore yX2_restore ∈ gw := gch22 _ (List.mem_of_getElem? (i := 9) rfl)
theorem co_X2_restore : Cond.code yX2_restore cX2_restore 4 none ∈ gw := gch22 _ (List.mem_of_getElem? (i := 10) rfl)
theorem ml_L_135 : Cond.methodLink RL 135 yX10_undo ∈ gw := gch22 _ (List.mem_of_getElem? (i := 11) rfl)
theorem im_X10_undo : Cond.instanceMethod yX10_undo ∈ gw := gch22 _ (List.mem_of_getElem? (i := 12) rfl)
theorem se_X10_undo : Cond.selects RX10 yX10_undo yX10_undo ∈ gw := gch22 _ (List.mem_of_getElem? (i := 13) rfl)
theorem co_X10_undo : Cond.code yX10_undo cX10_undo 2 (some .int) ∈ gw := gch22 _ (List.mem_of_getElem? (i := 14) rfl)
theorem ml_L_136 : Cond.methodLink RL 136 yL_part ∈ gw := gch22 _ (List.mem_of_getElem? (i := 15) rfl)
theorem st_L_part : Cond.static yL_part ∈ gw := gch22 _ (List.mem_of_getElem? (i := 16) rfl)
theorem cx_L_part : Cond.codeWith yL_part cL_part 5 (some .int) [(0, 10, 13, 20), (0, 10, 17, 13)] ∈ gw := gch22 _ (List.mem_of_getElem? (i := 17) rfl)
theorem ml_L_51 : Cond.methodLink RL 51 yX9_part ∈ gw := gch22 _ (List.mem_of_getElem? (i := 18) rfl)
theorem im_X9_part : Cond.instanceMethod yX9_part ∈ gw := gch22 _ (List.mem_of_getElem? (i := 19) rfl)
theorem se_X9_part : Cond.selects RX9 yX9_part yX9_part ∈ gw := gch22 _ (List.mem_of_getElem? (i := 20) rfl)
theorem co_X9_part : Cond.code yX9_part cX9_part 3 (some .int) ∈ gw := gch22 _ (List.mem_of_getElem? (i := 21) rfl)
theorem ml_X9_190 : Cond.methodLink RX9 190 yX7_leastLoadOf ∈ gw := gch22 _ (List.mem_of_getElem? (i := 22) rfl)
theorem im_X7_leastLoadOf : Cond.instanceMethod yX7_leastLoadOf ∈ gw := gch22 _ (List.mem_of_getElem? (i := 23) rfl)
theorem se_X7_leastLoadOf : Cond.selects RX7 yX7_leastLoadOf yX7_leastLoadOf ∈ gw := gch23 _ (List.mem_of_getElem? (i := 0) rfl)
theorem co_X7_leastLoadOf : Cond.code yX7_leastLoadOf cX7_leastLoadOf 3 (some .int) ∈ gw := gch23 _ (List.mem_of_getElem? (i := 1) rfl)
theorem ml_X9_193 : Cond.methodLink RX9 193 yX7_greatestLoadOf ∈ gw := gch23 _ (List.mem_of_getElem? (i := 2) rfl)
theorem im_X7_greatestLoadOf : Cond.instanceMethod yX7_greatestLoadOf ∈ gw := gch23 _ (List.mem_of_getElem? (i := 3) rfl)
theorem se_X7_greatestLoadOf : Cond.selects RX7 yX7_greatestLoadOf yX7_greatestLoadOf ∈ gw := gch23 _ (List.mem_of_getElem? (i := 4) rfl)
theorem co_X7_greatestLoadOf : Cond.code yX7_greatestLoadOf cX7_greatestLoadOf 3 (some .int) ∈ gw := gch23 _ (List.mem_of_getElem? (i := 5) rfl)
theorem ml_X9_196 : Cond.methodLink RX9 196 yX7_momentOf ∈ gw := gch23 _ (List.mem_of_getElem? (i := 6) rfl)
theorem im_X7_momentOf : Cond.instanceMethod yX7_momentOf ∈ gw := gch23 _ (List.mem_of_getElem? (i := 7) rfl)
theorem se_X7_momentOf : Cond.selects RX7 yX7_momentOf yX7_momentOf ∈ gw := gch23 _ (List.mem_of_getElem? (i := 8) rfl)
theorem co_X7_momentOf : Cond.code yX7_momentOf cX7_momentOf 4 (some .int) ∈ gw := gch23 _ (List.mem_of_getElem? (i := 9) rfl)
theorem ml_X9_199 : Cond.methodLink RX9 199 yX5_latestLoadOf ∈ gw := gch23 _ (List.mem_of_getElem? (i := 10) rfl)
theorem im_X5_latestLoadOf : Cond.instanceMethod yX5_latestLoadOf ∈ gw := gch23 _ (List.mem_of_getElem? (i := 11) rfl)
theorem se_X5_latestLoadOf : Cond.selects RX5 yX5_latestLoadOf yX5_latestLoadOf ∈ gw := gch23 _ (List.mem_of_getElem? (i := 12) rfl)
theorem co_X5_latestLoadOf : Cond.code yX5_latestLoadOf cX5_latestLoadOf 3 (some .int) ∈ gw := gch23 _ (List.mem_of_getElem? (i := 13) rfl)
theorem ml_L_139 : Cond.methodLink RL 139 yX10_part ∈ gw := gch23 _ (List.mem_of_getElem? (i := 14) rfl)
theorem im_X10_part : Cond.instanceMethod yX10_part ∈ gw := gch23 _ (List.mem_of_getElem? (i := 15) rfl)
theorem se_X10_part : Cond.selects RX10 yX10_part yX10_part ∈ gw := gch23 _ (List.mem_of_getElem? (i := 16) rfl)
theorem co_X10_part : Cond.code yX10_part cX10_part 3 (some .int) ∈ gw := gch23 _ (List.mem_of_getElem? (i := 17) rfl)
theorem ml_X10_157 : Cond.methodLink RX10 157 yX10_partNow ∈ gw := gch23 _ (List.mem_of_getElem? (i := 18) rfl)
theorem im_X10_partNow : Cond.instanceMethod yX10_partNow ∈ gw := gch23 _ (List.mem_of_getElem? (i := 19) rfl)
theorem se_X10_partNow : Cond.selects RX10 yX10_partNow yX10_partNow ∈ gw := gch23 _ (List.mem_of_getElem? (i := 20) rfl)
theorem co_X10_partNow : Cond.code yX10_partNow cX10_partNow 3 (some .int) ∈ gw := gch23 _ (List.mem_of_getElem? (i := 21) rfl)
theorem ml_X10_147 : Cond.methodLink RX10 147 yX10_leastLoad ∈ gw := gch23 _ (List.mem_of_getElem? (i := 22) rfl)
theorem im_X10_leastLoad : Cond.instanceMethod yX10_leastLoad ∈ gw := gch23 _ (List.mem_of_getElem? (i := 23) rfl)
theorem se_X10_leastLoad : Cond.selects RX10 yX10_leastLoad yX10_leastLoad ∈ gw := gch24 _ (List.mem_of_getElem? (i := 0) rfl)
theorem co_X10_leastLoad : Cond.code yX10_leastLoad cX10_leastLoad 3 (some .int) ∈ gw := gch24 _ (List.mem_of_getElem? (i := 1) rfl)
theorem ml_X10_150 : Cond.methodLink RX10 150 yX10_greatestLoad ∈ gw := gch24 _ (List.mem_of_getElem? (i := 2) rfl)
theorem im_X10_greatestLoad : Cond.instanceMethod yX10_greatestLoad ∈ gw := gch24 _ (List.mem_of_getElem? (i := 3) rfl)
theorem se_X10_greatestLoad : Cond.selects RX10 yX10_greatestLoad yX10_greatestLoad ∈ gw := gch24 _ (List.mem_of_getElem? (i := 4) rfl)
theorem co_X10_greatestLoad : Cond.code yX10_greatestLoad cX10_greatestLoad 3 (some .int) ∈ gw := gch24 _ (List.mem_of_getElem? (i := 5) rfl)
theorem ml_X10_153 : Cond.methodLink RX10 153 yX10_loadSum ∈ gw := gch24 _ (List.mem_of_getElem? (i := 6) rfl)
theorem im_X10_loadSum : Cond.instanceMethod yX10_loadSum ∈ gw := gch24 _ (List.mem_of_getElem? (i := 7) rfl)
theorem se_X10_loadSum : Cond.selects RX10 yX10_loadSum yX10_loadSum ∈ gw := gch24 _ (List.mem_of_getElem? (i := 8) rfl)
theorem co_X10_loadSum : Cond.code yX10_loadSum cX10_loadSum 5 (some .int) ∈ gw := gch24 _ (List.mem_of_getElem? (i := 9) rfl)
theorem ml_L_140 : Cond.methodLink RL 140 yL_weight ∈ gw := gch24 _ (List.mem_of_getElem? (i := 10) rfl)
theorem st_L_weight : Cond.static yL_weight ∈ gw := gch24 _ (List.mem_of_getElem? (i := 11) rfl)
theorem cx_L_weight : Cond.codeWith yL_weight cL_weight 6 (some .int) [(0, 12, 15, 20)] ∈ gw := gch24 _ (List.mem_of_getElem? (i := 12) rfl)
theorem ml_L_55 : Cond.methodLink RL 55 yX9_weight ∈ gw := gch24 _ (List.mem_of_getElem? (i := 13) rfl)
theorem im_X9_weight : Cond.instanceMethod yX9_weight ∈ gw := gch24 _ (List.mem_of_getElem? (i := 14) rfl)
theorem se_X9_weight : Cond.selects RX9 yX9_weight yX9_weight ∈ gw := gch24 _ (List.mem_of_getElem? (i := 15) rfl)
theorem co_X9_weight : Cond.code yX9_weight cX9_weight 4 (some .int) ∈ gw := gch24 _ (List.mem_of_getElem? (i := 16) rfl)
theorem ml_L_143 : Cond.methodLink RL 143 yX10_weight ∈ gw := gch24 _ (List.mem_of_getElem? (i := 17) rfl)
theorem im_X10_weight : Cond.instanceMethod yX10_weight ∈ gw := gch24 _ (List.mem_of_getElem? (i := 18) rfl)
theorem se_X10_weight : Cond.selects RX10 yX10_weight yX10_weight ∈ gw := gch24 _ (List.mem_of_getElem? (i := 19) rfl)
theorem co_X10_weight : Cond.code yX10_weight cX10_weight 4 (some .int) ∈ gw := gch24 _ (List.mem_of_getElem? (i := 20) rfl)
theorem ml_L_144 : Cond.methodLink RL 144 yL_ways ∈ gw := gch24 _ (List.mem_of_getElem? (i := 21) rfl)
theorem st_L_ways : Cond.static yL_ways ∈ gw := gch24 _ (List.mem_of_getElem? (i := 22) rfl)
theorem cx_L_ways : Cond.codeWith yL_ways cL_ways 5 (some .int) [(0, 9, 12, 13)] ∈ gw := gch24 _ (List.mem_of_getElem? (i := 23) rfl)
theorem ml_L_59 : Cond.methodLink RL 59 yX9_ways ∈ gw := gch25 _ (List.mem_of_getElem? (i := 0) rfl)
theorem im_X9_ways : Cond.instanceMethod yX9_ways ∈ gw := gch25 _ (List.mem_of_getElem? (i := 1) rfl)
theorem se_X9_ways : Cond.selects RX9 yX9_ways yX9_ways ∈ gw := gch25 _ (List.mem_of_getElem? (i := 2) rfl)
theorem co_X9_ways : Cond.code yX9_ways cX9_ways 3 (some .long) ∈ gw := gch25 _ (List.mem_of_getElem? (i := 3) rfl)
theorem ml_X9_202 : Cond.methodLink RX9 202 yX1_fill ∈ gw := gch25 _ (List.mem_of_getElem? (i := 4) rfl)
theorem im_X1_fill : Cond.instanceMethod yX1_fill ∈ gw := gch25 _ (List.mem_of_getElem? (i := 5) rfl)
theorem se_X1_fill : Cond.selects RX1 yX1_fill yX1_fill ∈ gw := gch25 _ (List.mem_of_getElem? (i := 6) rfl)
theorem co_X1_fill : Cond.code yX1_fill cX1_fill 4 none ∈ gw := gch25 _ (List.mem_of_getElem? (i := 7) rfl)
theorem fl_X1_15 : Cond.fieldLink RX1 15 "RareFaults$Plant" "parts" "I" ∈ gw := gch25 _ (List.mem_of_getElem? (i := 8) rfl)
theorem ml_X1_21 : Cond.methodLink RX1 21 yX1_addPartOf ∈ gw := gch25 _ (List.mem_of_getElem? (i := 9) rfl)
theorem im_X1_addPartOf : Cond.instanceMethod yX1_addPartOf ∈ gw := gch25 _ (List.mem_of_getElem? (i := 10) rfl)
theorem se_X1_addPartOf : Cond.selects RX1 yX1_addPartOf yX1_addPartOf ∈ gw := gch25 _ (List.mem_of_getElem? (i := 11) rfl)
theorem co_X1_addPartOf : Cond.code yX1_addPartOf cX1_addPartOf 7 none ∈ gw := gch25 _ (List.mem_of_getElem? (i := 12) rfl)
theorem fl_X1_25 : Cond.fieldLink RX1 25 "RareFaults$Plant" "weights" "LRareFaults$Table;" ∈ gw := gch25 _ (List.mem_of_getElem? (i := 13) rfl)
theorem ml_X1_29 : Cond.methodLink RX1 29 yX7_get ∈ gw := gch25 _ (List.mem_of_getElem? (i := 14) rfl)
theorem ml_X1_35 : Cond.methodLink RX1 35 yX1_waysOf ∈ gw := gch25 _ (List.mem_of_getElem? (i := 15) rfl)
theorem im_X1_waysOf : Cond.instanceMethod yX1_waysOf ∈ gw := gch25 _ (List.mem_of_getElem? (i := 16) rfl)
theorem se_X1_waysOf : Cond.selects RX1 yX1_waysOf yX1_waysOf ∈ gw := gch25 _ (List.mem_of_getElem? (i := 17) rfl)
theorem co_X1_waysOf : Cond.code yX1_waysOf cX1_waysOf 2 (some .long) ∈ gw := gch25 _ (List.mem_of_getElem? (i := 18) rfl)
theorem ml_X9_206 : Cond.methodLink RX9 206 yX1_waysFrom ∈ gw := gch25 _ (List.mem_of_getElem? (i := 19) rfl)
theorem im_X1_waysFrom : Cond.instanceMethod yX1_waysFrom ∈ gw := gch25 _ (List.mem_of_getElem? (i := 20) rfl)
theorem se_X1_waysFrom : Cond.selects RX1 yX1_waysFrom yX1_waysFrom ∈ gw := gch25 _ (List.mem_of_getElem? (i := 21) rfl)
theorem co_X1_waysFrom : Cond.code yX1_waysFrom cX1_waysFrom 5 (some .long) ∈ gw := gch25 _ (List.mem_of_getElem? (i := 22) rfl)
theorem ml_X1_39 : Cond.methodLink RX1 39 Lib.Math.max.name ∈ gw := gch25 _ (List.mem_of_getElem? (i := 23) rfl)
theorem st_max : Cond.static Lib.Math.max.name ∈ gw := gch26 _ (List.mem_of_getElem? (i := 0) rfl)
theorem co_max : Cond.code Lib.Math.max.name Lib.Math.max.code 2 (some .int) ∈ gw := gch26 _ (List.mem_of_getElem? (i := 1) rfl)
theorem ml_X9_210 : Cond.methodLink RX9 210 yX1_waysOf ∈ gw := gch26 _ (List.mem_of_getElem? (i := 2) rfl)
theorem ml_L_147 : Cond.methodLink RL 147 yX10_ways ∈ gw := gch26 _ (List.mem_of_getElem? (i := 3) rfl)
theorem im_X10_ways : Cond.instanceMethod yX10_ways ∈ gw := gch26 _ (List.mem_of_getElem? (i := 4) rfl)
theorem se_X10_ways : Cond.selects RX10 yX10_ways yX10_ways ∈ gw := gch26 _ (List.mem_of_getElem? (i := 5) rfl)
theorem co_X10_ways : Cond.code yX10_ways cX10_ways 3 (some .long) ∈ gw := gch26 _ (List.mem_of_getElem? (i := 6) rfl)
theorem ml_X10_160 : Cond.methodLink RX10 160 yX10_waysNow ∈ gw := gch26 _ (List.mem_of_getElem? (i := 7) rfl)
theorem im_X10_waysNow : Cond.instanceMethod yX10_waysNow ∈ gw := gch26 _ (List.mem_of_getElem? (i := 8) rfl)
theorem se_X10_waysNow : Cond.selects RX10 yX10_waysNow yX10_waysNow ∈ gw := gch26 _ (List.mem_of_getElem? (i := 9) rfl)
theorem co_X10_waysNow : Cond.code yX10_waysNow cX10_waysNow 3 (some .long) ∈ gw := gch26 _ (List.mem_of_getElem? (i := 10) rfl)
theorem ml_X10_82 : Cond.methodLink RX10 82 yX10_layWays ∈ gw := gch26 _ (List.mem_of_getElem? (i := 11) rfl)
theorem im_X10_layWays : Cond.instanceMethod yX10_layWays ∈ gw := gch26 _ (List.mem_of_getElem? (i := 12) rfl)
theorem se_X10_layWays : Cond.selects RX10 yX10_layWays yX10_layWays ∈ gw := gch26 _ (List.mem_of_getElem? (i := 13) rfl)
theorem co_X10_layWays : Cond.code yX10_layWays cX10_layWays 3 none ∈ gw := gch26 _ (List.mem_of_getElem? (i := 14) rfl)
theorem ml_X10_78 : Cond.methodLink RX10 78 yX10_addPartWays ∈ gw := gch26 _ (List.mem_of_getElem? (i := 15) rfl)
theorem im_X10_addPartWays : Cond.instanceMethod yX10_addPartWays ∈ gw := gch26 _ (List.mem_of_getElem? (i := 16) rfl)
theorem se_X10_addPartWays : Cond.selects RX10 yX10_addPartWays yX10_addPartWays ∈ gw := gch26 _ (List.mem_of_getElem? (i := 17) rfl)
theorem co_X10_addPartWays : Cond.code yX10_addPartWays cX10_addPartWays 6 none ∈ gw := gch26 _ (List.mem_of_getElem? (i := 18) rfl)
theorem ml_X10_85 : Cond.methodLink RX10 85 yX10_waysFrom ∈ gw := gch26 _ (List.mem_of_getElem? (i := 19) rfl)
theorem im_X10_waysFrom : Cond.instanceMethod yX10_waysFrom ∈ gw := gch26 _ (List.mem_of_getElem? (i := 20) rfl)
theorem se_X10_waysFrom : Cond.selects RX10 yX10_waysFrom yX10_waysFrom ∈ gw := gch26 _ (List.mem_of_getElem? (i := 21) rfl)
theorem co_X10_waysFrom : Cond.code yX10_waysFrom cX10_waysFrom 5 (some .long) ∈ gw := gch26 _ (List.mem_of_getElem? (i := 22) rfl)
theorem ml_L_148 : Cond.methodLink RL 148 yL_likeliest ∈ gw := gch26 _ (List.mem_of_getElem? (i := 23) rfl)
theorem st_L_likeliest : Cond.static yL_likeliest ∈ gw := gch27 _ (List.mem_of_getElem? (i := 0) rfl)
theorem cx_L_likeliest : Cond.codeWith yL_likeliest cL_likeliest 4 (some .int) [(0, 9, 12, 20)] ∈ gw := gch27 _ (List.mem_of_getElem? (i := 1) rfl)
theorem ml_L_63 : Cond.methodLink RL 63 yX9_likeliest ∈ gw := gch27 _ (List.mem_of_getElem? (i := 2) rfl)
theorem im_X9_likeliest : Cond.instanceMethod yX9_likeliest ∈ gw := gch27 _ (List.mem_of_getElem? (i := 3) rfl)
theorem se_X9_likeliest : Cond.selects RX9 yX9_likeliest yX9_likeliest ∈ gw := gch27 _ (List.mem_of_getElem? (i := 4) rfl)
theorem co_X9_likeliest : Cond.code yX9_likeliest cX9_likeliest 2 (some .int) ∈ gw := gch27 _ (List.mem_of_getElem? (i := 5) rfl)
theorem ml_X9_213 : Cond.methodLink RX9 213 yX3_fill ∈ gw := gch27 _ (List.mem_of_getElem? (i := 6) rfl)
theorem im_X3_fill : Cond.instanceMethod yX3_fill ∈ gw := gch27 _ (List.mem_of_getElem? (i := 7) rfl)
theorem se_X3_fill : Cond.selects RX3 yX3_fill yX3_fill ∈ gw := gch27 _ (List.mem_of_getElem? (i := 8) rfl)
theorem co_X3_fill : Cond.code yX3_fill cX3_fill 4 none ∈ gw := gch27 _ (List.mem_of_getElem? (i := 9) rfl)
theorem fl_X3_15 : Cond.fieldLink RX3 15 "RareFaults$Plant" "parts" "I" ∈ gw := gch27 _ (List.mem_of_getElem? (i := 10) rfl)
theorem ml_X3_21 : Cond.methodLink RX3 21 yX3_setMost ∈ gw := gch27 _ (List.mem_of_getElem? (i := 11) rfl)
theorem im_X3_setMost : Cond.instanceMethod yX3_setMost ∈ gw := gch27 _ (List.mem_of_getElem? (i := 12) rfl)
theorem se_X3_setMost : Cond.selects RX3 yX3_setMost yX3_setMost ∈ gw := gch27 _ (List.mem_of_getElem? (i := 13) rfl)
theorem co_X3_setMost : Cond.code yX3_setMost cX3_setMost 4 none ∈ gw := gch27 _ (List.mem_of_getElem? (i := 14) rfl)
theorem ml_X3_25 : Cond.methodLink RX3 25 yX3_mostOfLoads ∈ gw := gch27 _ (List.mem_of_getElem? (i := 15) rfl)
theorem im_X3_mostOfLoads : Cond.instanceMethod yX3_mostOfLoads ∈ gw := gch27 _ (List.mem_of_getElem? (i := 16) rfl)
theorem se_X3_mostOfLoads : Cond.selects RX3 yX3_mostOfLoads yX3_mostOfLoads ∈ gw := gch27 _ (List.mem_of_getElem? (i := 17) rfl)
theorem co_X3_mostOfLoads : Cond.code yX3_mostOfLoads cX3_mostOfLoads 6 (some .int) ∈ gw := gch27 _ (List.mem_of_getElem? (i := 18) rfl)
theorem ml_X3_43 : Cond.methodLink RX3 43 Lib.Math.max.name ∈ gw := gch27 _ (List.mem_of_getElem? (i := 19) rfl)
theorem ml_X3_48 : Cond.methodLink RX3 48 yX3_waysWith ∈ gw := gch27 _ (List.mem_of_getElem? (i := 20) rfl)
theorem im_X3_waysWith : Cond.instanceMethod yX3_waysWith ∈ gw := gch27 _ (List.mem_of_getElem? (i := 21) rfl)
theorem se_X3_waysWith : Cond.selects RX3 yX3_waysWith yX3_waysWith ∈ gw := gch27 _ (List.mem_of_getElem? (i := 22) rfl)
theorem co_X3_waysWith : Cond.code yX3_waysWith cX3_waysWith 5 (some .int) ∈ gw := gch27 _ (List.mem_of_getElem? (i := 23) rfl)
theorem fl_X3_52 : Cond.fieldLink RX3 52 "RareFaults$Plant" "weights" "LRareFaults$Table;" ∈ gw := gch28 _ (List.mem_of_getElem? (i := 0) rfl)
theorem ml_X3_56 : Cond.methodLink RX3 56 yX7_get ∈ gw := gch28 _ (List.mem_of_getElem? (i := 1) rfl)
theorem ml_X3_29 : Cond.methodLink RX3 29 yX3_getMost ∈ gw := gch28 _ (List.mem_of_getElem? (i := 2) rfl)
theorem im_X3_getMost : Cond.instanceMethod yX3_getMost ∈ gw := gch28 _ (List.mem_of_getElem? (i := 3) rfl)
theorem se_X3_getMost : Cond.selects RX3 yX3_getMost yX3_getMost ∈ gw := gch28 _ (List.mem_of_getElem? (i := 4) rfl)
theorem co_X3_getMost : Cond.code yX3_getMost cX3_getMost 4 (some .int) ∈ gw := gch28 _ (List.mem_of_getElem? (i := 5) rfl)
theorem ml_X9_215 : Cond.methodLink RX9 215 yX3_loadOf ∈ gw := gch28 _ (List.mem_of_getElem? (i := 6) rfl)
theorem im_X3_loadOf : Cond.instanceMethod yX3_loadOf ∈ gw := gch28 _ (List.mem_of_getElem? (i := 7) rfl)
theorem se_X3_loadOf : Cond.selects RX3 yX3_loadOf yX3_loadOf ∈ gw := gch28 _ (List.mem_of_getElem? (i := 8) rfl)
theorem co_X3_loadOf : Cond.code yX3_loadOf cX3_loadOf 5 (some .int) ∈ gw := gch28 _ (List.mem_of_getElem? (i := 9) rfl)
theorem fl_X3_33 : Cond.fieldLink RX3 33 "RareFaults$Plant" "limit" "I" ∈ gw := gch28 _ (List.mem_of_getElem? (i := 10) rfl)
theorem ml_X3_36 : Cond.methodLink RX3 36 yX3_waysFor ∈ gw := gch28 _ (List.mem_of_getElem? (i := 11) rfl)
theorem im_X3_waysFor : Cond.instanceMethod yX3_waysFor ∈ gw := gch28 _ (List.mem_of_getElem? (i := 12) rfl)
theorem se_X3_waysFor : Cond.selects RX3 yX3_waysFor yX3_waysFor ∈ gw := gch28 _ (List.mem_of_getElem? (i := 13) rfl)
theorem co_X3_waysFor : Cond.code yX3_waysFor cX3_waysFor 2 (some .int) ∈ gw := gch28 _ (List.mem_of_getElem? (i := 14) rfl)
theorem ml_X3_40 : Cond.methodLink RX3 40 yX3_firstLoad ∈ gw := gch28 _ (List.mem_of_getElem? (i := 15) rfl)
theorem im_X3_firstLoad : Cond.instanceMethod yX3_firstLoad ∈ gw := gch28 _ (List.mem_of_getElem? (i := 16) rfl)
theorem se_X3_firstLoad : Cond.selects RX3 yX3_firstLoad yX3_firstLoad ∈ gw := gch28 _ (List.mem_of_getElem? (i := 17) rfl)
theorem co_X3_firstLoad : Cond.code yX3_firstLoad cX3_firstLoad 5 (some .int) ∈ gw := gch28 _ (List.mem_of_getElem? (i := 18) rfl)
theorem ml_L_150 : Cond.methodLink RL 150 yX10_likeliest ∈ gw := gch28 _ (List.mem_of_getElem? (i := 19) rfl)
theorem im_X10_likeliest : Cond.instanceMethod yX10_likeliest ∈ gw := gch28 _ (List.mem_of_getElem? (i := 20) rfl)
theorem se_X10_likeliest : Cond.selects RX10 yX10_likeliest yX10_likeliest ∈ gw := gch28 _ (List.mem_of_getElem? (i := 21) rfl)
theorem co_X10_likeliest : Cond.code yX10_likeliest cX10_likeliest 2 (some .int) ∈ gw := gch28 _ (List.mem_of_getElem? (i := 22) rfl)
theorem ml_X10_164 : Cond.methodLink RX10 164 yX10_likeliestLoad ∈ gw := gch28 _ (List.mem_of_getElem? (i := 23) rfl)
theorem im_X10_likeliestLoad : Cond.instanceMethod yX10_likeliestLoad ∈ gw := gch29 _ (List.mem_of_getElem? (i := 0) rfl)
theorem se_X10_likeliestLoad : Cond.selects RX10 yX10_likeliestLoad yX10_likeliestLoad ∈ gw := gch29 _ (List.mem_of_getElem? (i := 1) rfl)
theorem co_X10_likeliestLoad : Cond.code yX10_likeliestLoad cX10_likeliestLoad 5 (some .int) ∈ gw := gch29 _ (List.mem_of_getElem? (i := 2) rfl)
theorem ml_X10_96 : Cond.methodLink RX10 96 yX10_likeliestWays ∈ gw := gch29 _ (List.mem_of_getElem? (i := 3) rfl)
theorem im_X10_likeliestWays : Cond.instanceMethod yX10_likeliestWays ∈ gw := gch29 _ (List.mem_of_getElem? (i := 4) rfl)
theorem se_X10_likeliestWays : Cond.selects RX10 yX10_likeliestWays yX10_likeliestWays ∈ gw := gch29 _ (List.mem_of_getElem? (i := 5) rfl)
theorem co_X10_likeliestWays : Cond.code yX10_likeliestWays cX10_likeliestWays 1 (some .int) ∈ gw := gch29 _ (List.mem_of_getElem? (i := 6) rfl)
theorem ml_X10_93 : Cond.methodLink RX10 93 yX10_layMost ∈ gw := gch29 _ (List.mem_of_getElem? (i := 7) rfl)
theorem im_X10_layMost : Cond.instanceMethod yX10_layMost ∈ gw := gch29 _ (List.mem_of_getElem? (i := 8) rfl)
theorem se_X10_layMost : Cond.selects RX10 yX10_layMost yX10_layMost ∈ gw := gch29 _ (List.mem_of_getElem? (i := 9) rfl)
theorem co_X10_layMost : Cond.code yX10_layMost cX10_layMost 6 none ∈ gw := gch29 _ (List.mem_of_getElem? (i := 10) rfl)
theorem ml_X10_89 : Cond.methodLink RX10 89 yX10_mostBy ∈ gw := gch29 _ (List.mem_of_getElem? (i := 11) rfl)
theorem im_X10_mostBy : Cond.instanceMethod yX10_mostBy ∈ gw := gch29 _ (List.mem_of_getElem? (i := 12) rfl)
theorem se_X10_mostBy : Cond.selects RX10 yX10_mostBy yX10_mostBy ∈ gw := gch29 _ (List.mem_of_getElem? (i := 13) rfl)
theorem co_X10_mostBy : Cond.code yX10_mostBy cX10_mostBy 5 (some .int) ∈ gw := gch29 _ (List.mem_of_getElem? (i := 14) rfl)
theorem ml_L_151 : Cond.methodLink RL 151 yL_count ∈ gw := gch29 _ (List.mem_of_getElem? (i := 15) rfl)
theorem st_L_count : Cond.static yL_count ∈ gw := gch29 _ (List.mem_of_getElem? (i := 16) rfl)
theorem cx_L_count : Cond.codeWith yL_count cL_count 4 (some .int) [(0, 9, 12, 13)] ∈ gw := gch29 _ (List.mem_of_getElem? (i := 17) rfl)
theorem ml_L_66 : Cond.methodLink RL 66 yX9_count ∈ gw := gch29 _ (List.mem_of_getElem? (i := 18) rfl)
theorem im_X9_count : Cond.instanceMethod yX9_count ∈ gw := gch29 _ (List.mem_of_getElem? (i := 19) rfl)
theorem se_X9_count : Cond.selects RX9 yX9_count yX9_count ∈ gw := gch29 _ (List.mem_of_getElem? (i := 20) rfl)
theorem co_X9_count : Cond.code yX9_count cX9_count 2 (some .int) ∈ gw := gch29 _ (List.mem_of_getElem? (i := 21) rfl)
theorem ml_X9_219 : Cond.methodLink RX9 219 yX4_leastSum ∈ gw := gch29 _ (List.mem_of_getElem? (i := 22) rfl)
theorem im_X4_leastSum : Cond.instanceMethod yX4_leastSum ∈ gw := gch29 _ (List.mem_of_getElem? (i := 23) rfl)
theorem se_X4_leastSum : Cond.selects RX4 yX4_leastSum yX4_leastSum ∈ gw := gch30 _ (List.mem_of_getElem? (i := 0) rfl)
theorem co_X4_leastSum : Cond.code yX4_leastSum cX4_leastSum 3 (some .int) ∈ gw := gch30 _ (List.mem_of_getElem? (i := 1) rfl)
theorem ml_X4_62 : Cond.methodLink RX4 62 yX7_leastLoadOf ∈ gw := gch30 _ (List.mem_of_getElem? (i := 2) rfl)
theorem ml_X9_222 : Cond.methodLink RX9 222 yX4_greatestSum ∈ gw := gch30 _ (List.mem_of_getElem? (i := 3) rfl)
theorem im_X4_greatestSum : Cond.instanceMethod yX4_greatestSum ∈ gw := gch30 _ (List.mem_of_getElem? (i := 4) rfl)
theorem se_X4_greatestSum : Cond.selects RX4 yX4_greatestSum yX4_greatestSum ∈ gw := gch30 _ (List.mem_of_getElem? (i := 5) rfl)
theorem co_X4_greatestSum : Cond.code yX4_greatestSum cX4_greatestSum 3 (some .int) ∈ gw := gch30 _ (List.mem_of_getElem? (i := 6) rfl)
theorem ml_X4_65 : Cond.methodLink RX4 65 yX7_greatestLoadOf ∈ gw := gch30 _ (List.mem_of_getElem? (i := 7) rfl)
theorem ml_X9_225 : Cond.methodLink RX9 225 yX3_waysFor ∈ gw := gch30 _ (List.mem_of_getElem? (i := 8) rfl)
theorem ml_L_153 : Cond.methodLink RL 153 yX10_count ∈ gw := gch30 _ (List.mem_of_getElem? (i := 9) rfl)
theorem im_X10_count : Cond.instanceMethod yX10_count ∈ gw := gch30 _ (List.mem_of_getElem? (i := 10) rfl)
theorem se_X10_count : Cond.selects RX10 yX10_count yX10_count ∈ gw := gch30 _ (List.mem_of_getElem? (i := 11) rfl)
theorem co_X10_count : Cond.code yX10_count cX10_count 2 (some .int) ∈ gw := gch30 _ (List.mem_of_getElem? (i := 12) rfl)
theorem ml_X10_171 : Cond.methodLink RX10 171 yX10_counted ∈ gw := gch30 _ (List.mem_of_getElem? (i := 13) rfl)
theorem im_X10_counted : Cond.instanceMethod yX10_counted ∈ gw := gch30 _ (List.mem_of_getElem? (i := 14) rfl)
theorem se_X10_counted : Cond.selects RX10 yX10_counted yX10_counted ∈ gw := gch30 _ (List.mem_of_getElem? (i := 15) rfl)
theorem co_X10_counted : Cond.code yX10_counted cX10_counted 2 (some .int) ∈ gw := gch30 _ (List.mem_of_getElem? (i := 16) rfl)
theorem ml_X10_167 : Cond.methodLink RX10 167 yX10_endSum ∈ gw := gch30 _ (List.mem_of_getElem? (i := 17) rfl)
theorem im_X10_endSum : Cond.instanceMethod yX10_endSum ∈ gw := gch30 _ (List.mem_of_getElem? (i := 18) rfl)
theorem se_X10_endSum : Cond.selects RX10 yX10_endSum yX10_endSum ∈ gw := gch30 _ (List.mem_of_getElem? (i := 19) rfl)
theorem co_X10_endSum : Cond.code yX10_endSum cX10_endSum 5 (some .int) ∈ gw := gch30 _ (List.mem_of_getElem? (i := 20) rfl)
theorem ml_L_154 : Cond.methodLink RL 154 yL_measure ∈ gw := gch30 _ (List.mem_of_getElem? (i := 21) rfl)
theorem st_L_measure : Cond.static yL_measure ∈ gw := gch30 _ (List.mem_of_getElem? (i := 22) rfl)
theorem cx_L_measure : Cond.codeWith yL_measure cL_measure 4 (some .int) [(0, 8, 11, 13)] ∈ gw := gch30 _ (List.mem_of_getElem? (i := 23) rfl)
theorem ml_L_69 : Cond.methodLink RL 69 yX9_measure ∈ gw := gch31 _ (List.mem_of_getElem? (i := 0) rfl)
theorem im_X9_measure : Cond.instanceMethod yX9_measure ∈ gw := gch31 _ (List.mem_of_getElem? (i := 1) rfl)
theorem se_X9_measure : Cond.selects RX9 yX9_measure yX9_measure ∈ gw := gch31 _ (List.mem_of_getElem? (i := 2) rfl)
theorem co_X9_measure : Cond.code yX9_measure cX9_measure 3 (some .double) ∈ gw := gch31 _ (List.mem_of_getElem? (i := 3) rfl)
theorem fl_X9_232 : Cond.fieldLink RX9 232 "RareFaults$Samples" "faultSum" "D" ∈ gw := gch31 _ (List.mem_of_getElem? (i := 4) rfl)
theorem fl_X9_240 : Cond.fieldLink RX9 240 "RareFaults$Samples" "sum" "D" ∈ gw := gch31 _ (List.mem_of_getElem? (i := 5) rfl)
theorem fl_X9_247 : Cond.fieldLink RX9 247 "RareFaults$Samples" "latestCorrection" "D" ∈ gw := gch31 _ (List.mem_of_getElem? (i := 6) rfl)
theorem ml_X9_228 : Cond.methodLink RX9 228 yX9_oddsFor ∈ gw := gch31 _ (List.mem_of_getElem? (i := 7) rfl)
theorem im_X9_oddsFor : Cond.instanceMethod yX9_oddsFor ∈ gw := gch31 _ (List.mem_of_getElem? (i := 8) rfl)
theorem se_X9_oddsFor : Cond.selects RX9 yX9_oddsFor yX9_oddsFor ∈ gw := gch31 _ (List.mem_of_getElem? (i := 9) rfl)
theorem co_X9_oddsFor : Cond.code yX9_oddsFor cX9_oddsFor 3 (some .double) ∈ gw := gch31 _ (List.mem_of_getElem? (i := 10) rfl)
theorem ml_X9_315 : Cond.methodLink RX9 315 yX1_oddsFrom ∈ gw := gch31 _ (List.mem_of_getElem? (i := 11) rfl)
theorem im_X1_oddsFrom : Cond.instanceMethod yX1_oddsFrom ∈ gw := gch31 _ (List.mem_of_getElem? (i := 12) rfl)
theorem se_X1_oddsFrom : Cond.selects RX1 yX1_oddsFrom yX1_oddsFrom ∈ gw := gch31 _ (List.mem_of_getElem? (i := 13) rfl)
theorem co_X1_oddsFrom : Cond.code yX1_oddsFrom cX1_oddsFrom 4 (some .double) ∈ gw := gch31 _ (List.mem_of_getElem? (i := 14) rfl)
theorem ml_X1_44 : Cond.methodLink RX1 44 yX1_waysFrom ∈ gw := gch31 _ (List.mem_of_getElem? (i := 15) rfl)
theorem ml_X9_236 : Cond.methodLink RX9 236 yX5_shareOf ∈ gw := gch31 _ (List.mem_of_getElem? (i := 16) rfl)
theorem im_X5_shareOf : Cond.instanceMethod yX5_shareOf ∈ gw := gch31 _ (List.mem_of_getElem? (i := 17) rfl)
theorem se_X5_shareOf : Cond.selects RX5 yX5_shareOf yX5_shareOf ∈ gw := gch31 _ (List.mem_of_getElem? (i := 18) rfl)
theorem co_X5_shareOf : Cond.code yX5_shareOf cX5_shareOf 3 (some .double) ∈ gw := gch31 _ (List.mem_of_getElem? (i := 19) rfl)
theorem ml_X9_243 : Cond.methodLink RX9 243 yX5_effectiveNumber ∈ gw := gch31 _ (List.mem_of_getElem? (i := 20) rfl)
theorem im_X5_effectiveNumber : Cond.instanceMethod yX5_effectiveNumber ∈ gw := gch31 _ (List.mem_of_getElem? (i := 21) rfl)
theorem se_X5_effectiveNumber : Cond.selects RX5 yX5_effectiveNumber yX5_effectiveNumber ∈ gw := gch31 _ (List.mem_of_getElem? (i := 22) rfl)
theorem co_X5_effectiveNumber : Cond.code yX5_effectiveNumber cX5_effectiveNumber 1 (some .double) ∈ gw := gch31 _ (List.mem_of_getElem? (i := 23) rfl)
theorem ml_L_157 : Cond.methodLink RL 157 yX10_measure ∈ gw := gch32 _ (List.mem_of_getElem? (i := 0) rfl)
theorem im_X10_measure : Cond.instanceMethod yX10_measure ∈ gw := gch32 _ (List.mem_of_getElem? (i := 1) rfl)
theorem se_X10_measure : Cond.selects RX10 yX10_measure yX10_measure ∈ gw := gch32 _ (List.mem_of_getElem? (i := 2) rfl)
theorem co_X10_measure : Cond.code yX10_measure cX10_measure 2 (some .double) ∈ gw := gch32 _ (List.mem_of_getElem? (i := 3) rfl)
theorem ml_X10_186 : Cond.methodLink RX10 186 yX10_measured ∈ gw := gch32 _ (List.mem_of_getElem? (i := 4) rfl)
theorem im_X10_measured : Cond.instanceMethod yX10_measured ∈ gw := gch32 _ (List.mem_of_getElem? (i := 5) rfl)
theorem se_X10_measured : Cond.selects RX10 yX10_measured yX10_measured ∈ gw := gch32 _ (List.mem_of_getElem? (i := 6) rfl)
theorem co_X10_measured : Cond.code yX10_measured cX10_measured 2 (some .double) ∈ gw := gch32 _ (List.mem_of_getElem? (i := 7) rfl)
theorem ml_X10_174 : Cond.methodLink RX10 174 yX10_oddsBy ∈ gw := gch32 _ (List.mem_of_getElem? (i := 8) rfl)
theorem im_X10_oddsBy : Cond.instanceMethod yX10_oddsBy ∈ gw := gch32 _ (List.mem_of_getElem? (i := 9) rfl)
theorem se_X10_oddsBy : Cond.selects RX10 yX10_oddsBy yX10_oddsBy ∈ gw := gch32 _ (List.mem_of_getElem? (i := 10) rfl)
theorem co_X10_oddsBy : Cond.code yX10_oddsBy cX10_oddsBy 3 (some .double) ∈ gw := gch32 _ (List.mem_of_getElem? (i := 11) rfl)
theorem ml_X10_178 : Cond.methodLink RX10 178 yX10_bySamples ∈ gw := gch32 _ (List.mem_of_getElem? (i := 12) rfl)
theorem im_X10_bySamples : Cond.instanceMethod yX10_bySamples ∈ gw := gch32 _ (List.mem_of_getElem? (i := 13) rfl)
theorem se_X10_bySamples : Cond.selects RX10 yX10_bySamples yX10_bySamples ∈ gw := gch32 _ (List.mem_of_getElem? (i := 14) rfl)
theorem co_X10_bySamples : Cond.code yX10_bySamples cX10_bySamples 3 (some .double) ∈ gw := gch32 _ (List.mem_of_getElem? (i := 15) rfl)
theorem ml_X10_182 : Cond.methodLink RX10 182 yX10_effective ∈ gw := gch32 _ (List.mem_of_getElem? (i := 16) rfl)
theorem im_X10_effective : Cond.instanceMethod yX10_effective ∈ gw := gch32 _ (List.mem_of_getElem? (i := 17) rfl)
theorem se_X10_effective : Cond.selects RX10 yX10_effective yX10_effective ∈ gw := gch32 _ (List.mem_of_getElem? (i := 18) rfl)
theorem co_X10_effective : Cond.code yX10_effective cX10_effective 1 (some .double) ∈ gw := gch32 _ (List.mem_of_getElem? (i := 19) rfl)
theorem ml_L_158 : Cond.methodLink RL 158 yL_ifLimit ∈ gw := gch32 _ (List.mem_of_getElem? (i := 20) rfl)
theorem st_L_ifLimit : Cond.static yL_ifLimit ∈ gw := gch32 _ (List.mem_of_getElem? (i := 21) rfl)
theorem cx_L_ifLimit : Cond.codeWith yL_ifLimit cL_ifLimit 4 (some .int) [(0, 8, 11, 13)] ∈ gw := gch32 _ (List.mem_of_getElem? (i := 22) rfl)
theorem ml_L_73 : Cond.methodLink RL 73 yX9_ifLimit ∈ gw := gch32 _ (List.mem_of_getElem? (i := 23) rfl)
theorem im_X9_ifLimit : Cond.instanceMethod yX9_ifLimit ∈ gw := gch33 _ (List.mem_of_getElem? (i := 0) rfl)
theorem se_X9_ifLimit : Cond.selects RX9 yX9_ifLimit yX9_ifLimit ∈ gw := gch33 _ (List.mem_of_getElem? (i := 1) rfl)
theorem co_X9_ifLimit : Cond.code yX9_ifLimit cX9_ifLimit 2 (some .double) ∈ gw := gch33 _ (List.mem_of_getElem? (i := 2) rfl)
theorem ml_L_160 : Cond.methodLink RL 160 yX10_ifLimit ∈ gw := gch33 _ (List.mem_of_getElem? (i := 3) rfl)
theorem im_X10_ifLimit : Cond.instanceMethod yX10_ifLimit ∈ gw := gch33 _ (List.mem_of_getElem? (i := 4) rfl)
theorem se_X10_ifLimit : Cond.selects RX10 yX10_ifLimit yX10_ifLimit ∈ gw := gch33 _ (List.mem_of_getElem? (i := 5) rfl)
theorem co_X10_ifLimit : Cond.code yX10_ifLimit cX10_ifLimit 2 (some .double) ∈ gw := gch33 _ (List.mem_of_getElem? (i := 6) rfl)
theorem ml_L_161 : Cond.methodLink RL 161 yL_limitFor ∈ gw := gch33 _ (List.mem_of_getElem? (i := 7) rfl)
theorem st_L_limitFor : Cond.static yL_limitFor ∈ gw := gch33 _ (List.mem_of_getElem? (i := 8) rfl)
theorem cx_L_limitFor : Cond.codeWith yL_limitFor cL_limitFor 4 (some .int) [(0, 9, 12, 13)] ∈ gw := gch33 _ (List.mem_of_getElem? (i := 9) rfl)
theorem ml_L_76 : Cond.methodLink RL 76 yX9_limitFor ∈ gw := gch33 _ (List.mem_of_getElem? (i := 10) rfl)
theorem im_X9_limitFor : Cond.instanceMethod yX9_limitFor ∈ gw := gch33 _ (List.mem_of_getElem? (i := 11) rfl)
theorem se_X9_limitFor : Cond.selects RX9 yX9_limitFor yX9_limitFor ∈ gw := gch33 _ (List.mem_of_getElem? (i := 12) rfl)
theorem co_X9_limitFor : Cond.code yX9_limitFor cX9_limitFor 5 (some .int) ∈ gw := gch33 _ (List.mem_of_getElem? (i := 13) rfl)
theorem kk_X9_250 : Cond.constantLong RX9 250 (1000) ∈ gw := gch33 _ (List.mem_of_getElem? (i := 14) rfl)
theorem ml_L_163 : Cond.methodLink RL 163 yX10_limitFor ∈ gw := gch33 _ (List.mem_of_getElem? (i := 15) rfl)
theorem im_X10_limitFor : Cond.instanceMethod yX10_limitFor ∈ gw := gch33 _ (List.mem_of_getElem? (i := 16) rfl)
theorem se_X10_limitFor : Cond.selects RX10 yX10_limitFor yX10_limitFor ∈ gw := gch33 _ (List.mem_of_getElem? (i := 17) rfl)
theorem co_X10_limitFor : Cond.code yX10_limitFor cX10_limitFor 2 (some .int) ∈ gw := gch33 _ (List.mem_of_getElem? (i := 18) rfl)
theorem ml_X10_192 : Cond.methodLink RX10 192 yX10_limitNow ∈ gw := gch33 _ (List.mem_of_getElem? (i := 19) rfl)
theorem im_X10_limitNow : Cond.instanceMethod yX10_limitNow ∈ gw := gch33 _ (List.mem_of_getElem? (i := 20) rfl)
theorem se_X10_limitNow : Cond.selects RX10 yX10_limitNow yX10_limitNow ∈ gw := gch33 _ (List.mem_of_getElem? (i := 21) rfl)
theorem co_X10_limitNow : Cond.code yX10_limitNow cX10_limitNow 3 (some .int) ∈ gw := gch33 _ (List.mem_of_getElem? (i := 22) rfl)
theorem kk_X10_190 : Cond.constantLong RX10 190 (1000) ∈ gw := gch33 _ (List.mem_of_getElem? (i := 23) rfl)
theorem ml_L_164 : Cond.methodLink RL 164 yX9_greatest ∈ gw := gch34 _ (List.mem_of_getElem? (i := 0) rfl)
theorem im_X9_greatest : Cond.instanceMethod yX9_greatest ∈ gw := gch34 _ (List.mem_of_getElem? (i := 1) rfl)
theorem se_X9_greatest : Cond.selects RX9 yX9_greatest yX9_greatest ∈ gw := gch34 _ (List.mem_of_getElem? (i := 2) rfl)
theorem co_X9_greatest : Cond.code yX9_greatest cX9_greatest 2 (some .double) ∈ gw := gch34 _ (List.mem_of_getElem? (i := 3) rfl)
theorem ml_X9_252 : Cond.methodLink RX9 252 yX0_fill ∈ gw := gch34 _ (List.mem_of_getElem? (i := 4) rfl)
theorem im_X0_fill : Cond.instanceMethod yX0_fill ∈ gw := gch34 _ (List.mem_of_getElem? (i := 5) rfl)
theorem se_X0_fill : Cond.selects RX0 yX0_fill yX0_fill ∈ gw := gch34 _ (List.mem_of_getElem? (i := 6) rfl)
theorem co_X0_fill : Cond.code yX0_fill cX0_fill 3 none ∈ gw := gch34 _ (List.mem_of_getElem? (i := 7) rfl)
theorem fl_X0_15 : Cond.fieldLink RX0 15 "RareFaults$Plant" "parts" "I" ∈ gw := gch34 _ (List.mem_of_getElem? (i := 8) rfl)
theorem ml_X0_21 : Cond.methodLink RX0 21 yX0_addPartOf ∈ gw := gch34 _ (List.mem_of_getElem? (i := 9) rfl)
theorem im_X0_addPartOf : Cond.instanceMethod yX0_addPartOf ∈ gw := gch34 _ (List.mem_of_getElem? (i := 10) rfl)
theorem se_X0_addPartOf : Cond.selects RX0 yX0_addPartOf yX0_addPartOf ∈ gw := gch34 _ (List.mem_of_getElem? (i := 11) rfl)
theorem co_X0_addPartOf : Cond.code yX0_addPartOf cX0_addPartOf 9 none ∈ gw := gch34 _ (List.mem_of_getElem? (i := 12) rfl)
theorem ml_X0_25 : Cond.methodLink RX0 25 yX0_correctionOf ∈ gw := gch34 _ (List.mem_of_getElem? (i := 13) rfl)
theorem im_X0_correctionOf : Cond.instanceMethod yX0_correctionOf ∈ gw := gch34 _ (List.mem_of_getElem? (i := 14) rfl)
theorem se_X0_correctionOf : Cond.selects RX0 yX0_correctionOf yX0_correctionOf ∈ gw := gch34 _ (List.mem_of_getElem? (i := 15) rfl)
theorem co_X0_correctionOf : Cond.code yX0_correctionOf cX0_correctionOf 2 (some .double) ∈ gw := gch34 _ (List.mem_of_getElem? (i := 16) rfl)
theorem ml_X0_29 : Cond.methodLink RX0 29 yX4_corrected ∈ gw := gch34 _ (List.mem_of_getElem? (i := 17) rfl)
theorem ml_X9_253 : Cond.methodLink RX9 253 yX0_greatestFrom ∈ gw := gch34 _ (List.mem_of_getElem? (i := 18) rfl)
theorem im_X0_greatestFrom : Cond.instanceMethod yX0_greatestFrom ∈ gw := gch34 _ (List.mem_of_getElem? (i := 19) rfl)
theorem se_X0_greatestFrom : Cond.selects RX0 yX0_greatestFrom yX0_greatestFrom ∈ gw := gch34 _ (List.mem_of_getElem? (i := 20) rfl)
theorem co_X0_greatestFrom : Cond.code yX0_greatestFrom cX0_greatestFrom 5 (some .double) ∈ gw := gch34 _ (List.mem_of_getElem? (i := 21) rfl)
theorem ml_X0_33 : Cond.methodLink RX0 33 Lib.Math.max.name ∈ gw := gch34 _ (List.mem_of_getElem? (i := 22) rfl)
theorem ml_L_168 : Cond.methodLink RL 168 yX10_greatest ∈ gw := gch34 _ (List.mem_of_getElem? (i := 23) rfl)
theorem im_X10_greatest : Cond.instanceMethod yX10_greatest ∈ gw := gch35 _ (List.mem_of_getElem? (i := 0) rfl)
theorem se_X10_greatest : Cond.selects RX10 yX10_greatest yX10_greatest ∈ gw := gch35 _ (List.mem_of_getElem? (i := 1) rfl)
theorem co_X10_greatest : Cond.code yX10_greatest cX10_greatest 2 (some .double) ∈ gw := gch35 _ (List.mem_of_getElem? (i := 2) rfl)
theorem ml_X10_203 : Cond.methodLink RX10 203 yX10_greatestNow ∈ gw := gch35 _ (List.mem_of_getElem? (i := 3) rfl)
theorem im_X10_greatestNow : Cond.instanceMethod yX10_greatestNow ∈ gw := gch35 _ (List.mem_of_getElem? (i := 4) rfl)
theorem se_X10_greatestNow : Cond.selects RX10 yX10_greatestNow yX10_greatestNow ∈ gw := gch35 _ (List.mem_of_getElem? (i := 5) rfl)
theorem co_X10_greatestNow : Cond.code yX10_greatestNow cX10_greatestNow 6 (some .double) ∈ gw := gch35 _ (List.mem_of_getElem? (i := 6) rfl)
theorem ml_X10_195 : Cond.methodLink RX10 195 yX10_correctionOf ∈ gw := gch35 _ (List.mem_of_getElem? (i := 7) rfl)
theorem im_X10_correctionOf : Cond.instanceMethod yX10_correctionOf ∈ gw := gch35 _ (List.mem_of_getElem? (i := 8) rfl)
theorem se_X10_correctionOf : Cond.selects RX10 yX10_correctionOf yX10_correctionOf ∈ gw := gch35 _ (List.mem_of_getElem? (i := 9) rfl)
theorem co_X10_correctionOf : Cond.code yX10_correctionOf cX10_correctionOf 6 (some .double) ∈ gw := gch35 _ (List.mem_of_getElem? (i := 10) rfl)
theorem ml_X10_199 : Cond.methodLink RX10 199 yX10_goesOn ∈ gw := gch35 _ (List.mem_of_getElem? (i := 11) rfl)
theorem im_X10_goesOn : Cond.instanceMethod yX10_goesOn ∈ gw := gch35 _ (List.mem_of_getElem? (i := 12) rfl)
theorem se_X10_goesOn : Cond.selects RX10 yX10_goesOn yX10_goesOn ∈ gw := gch35 _ (List.mem_of_getElem? (i := 13) rfl)
theorem co_X10_goesOn : Cond.code yX10_goesOn cX10_goesOn 2 (some .boolean) ∈ gw := gch35 _ (List.mem_of_getElem? (i := 14) rfl)
theorem ml_L_169 : Cond.methodLink RL 169 yX9_slightest ∈ gw := gch35 _ (List.mem_of_getElem? (i := 15) rfl)
theorem im_X9_slightest : Cond.instanceMethod yX9_slightest ∈ gw := gch35 _ (List.mem_of_getElem? (i := 16) rfl)
theorem se_X9_slightest : Cond.selects RX9 yX9_slightest yX9_slightest ∈ gw := gch35 _ (List.mem_of_getElem? (i := 17) rfl)
theorem co_X9_slightest : Cond.code yX9_slightest cX9_slightest 7 (some .int) ∈ gw := gch35 _ (List.mem_of_getElem? (i := 18) rfl)
theorem kk_X9_257 : Cond.constantDouble RX9 257 (13830554455654793216) ∈ gw := gch35 _ (List.mem_of_getElem? (i := 19) rfl)
theorem ml_L_172 : Cond.methodLink RL 172 yX10_slightest ∈ gw := gch35 _ (List.mem_of_getElem? (i := 20) rfl)
theorem im_X10_slightest : Cond.instanceMethod yX10_slightest ∈ gw := gch35 _ (List.mem_of_getElem? (i := 21) rfl)
theorem se_X10_slightest : Cond.selects RX10 yX10_slightest yX10_slightest ∈ gw := gch35 _ (List.mem_of_getElem? (i := 22) rfl)
theorem co_X10_slightest : Cond.code yX10_slightest cX10_slightest 1 (some .int) ∈ gw := gch35 _ (List.mem_of_getElem? (i := 23) rfl)
theorem ml_X10_206 : Cond.methodLink RX10 206 yX10_slightestNow ∈ gw := gch36 _ (List.mem_of_getElem? (i := 0) rfl)
theorem im_X10_slightestNow : Cond.instanceMethod yX10_slightestNow ∈ gw := gch36 _ (List.mem_of_getElem? (i := 1) rfl)
theorem se_X10_slightestNow : Cond.selects RX10 yX10_slightestNow yX10_slightestNow ∈ gw := gch36 _ (List.mem_of_getElem? (i := 2) rfl)
theorem co_X10_slightestNow : Cond.code yX10_slightestNow cX10_slightestNow 8 (some .int) ∈ gw := gch36 _ (List.mem_of_getElem? (i := 3) rfl)
theorem ml_L_173 : Cond.methodLink RL 173 yX9_digest ∈ gw := gch36 _ (List.mem_of_getElem? (i := 4) rfl)
theorem im_X9_digest : Cond.instanceMethod yX9_digest ∈ gw := gch36 _ (List.mem_of_getElem? (i := 5) rfl)
theorem se_X9_digest : Cond.selects RX9 yX9_digest yX9_digest ∈ gw := gch36 _ (List.mem_of_getElem? (i := 6) rfl)
theorem co_X9_digest : Cond.code yX9_digest cX9_digest 4 (some .long) ∈ gw := gch36 _ (List.mem_of_getElem? (i := 7) rfl)
theorem kk_X9_259 : Cond.constantLong RX9 259 (2657) ∈ gw := gch36 _ (List.mem_of_getElem? (i := 8) rfl)
theorem ml_X9_261 : Cond.methodLink RX9 261 yX9_count ∈ gw := gch36 _ (List.mem_of_getElem? (i := 9) rfl)
theorem ml_X9_264 : Cond.methodLink RX9 264 yX9_hashWith ∈ gw := gch36 _ (List.mem_of_getElem? (i := 10) rfl)
theorem st_X9_hashWith : Cond.static yX9_hashWith ∈ gw := gch36 _ (List.mem_of_getElem? (i := 11) rfl)
theorem co_X9_hashWith : Cond.code yX9_hashWith cX9_hashWith 4 (some .long) ∈ gw := gch36 _ (List.mem_of_getElem? (i := 12) rfl)
theorem kk_X9_305 : Cond.constantLong RX9 305 (31) ∈ gw := gch36 _ (List.mem_of_getElem? (i := 13) rfl)
theorem ml_X9_268 : Cond.methodLink RX9 268 yX9_hashWithPart ∈ gw := gch36 _ (List.mem_of_getElem? (i := 14) rfl)
theorem im_X9_hashWithPart : Cond.instanceMethod yX9_hashWithPart ∈ gw := gch36 _ (List.mem_of_getElem? (i := 15) rfl)
theorem se_X9_hashWithPart : Cond.selects RX9 yX9_hashWithPart yX9_hashWithPart ∈ gw := gch36 _ (List.mem_of_getElem? (i := 16) rfl)
theorem co_X9_hashWithPart : Cond.code yX9_hashWithPart cX9_hashWithPart 7 (some .long) ∈ gw := gch36 _ (List.mem_of_getElem? (i := 17) rfl)
theorem ml_X9_299 : Cond.methodLink RX9 299 yX9_part ∈ gw := gch36 _ (List.mem_of_getElem? (i := 18) rfl)
theorem ml_X9_302 : Cond.methodLink RX9 302 yX9_likeliest ∈ gw := gch36 _ (List.mem_of_getElem? (i := 19) rfl)
theorem ml_X9_272 : Cond.methodLink RX9 272 yX9_ways ∈ gw := gch36 _ (List.mem_of_getElem? (i := 20) rfl)
theorem ml_X9_276 : Cond.methodLink RX9 276 yX9_measure ∈ gw := gch36 _ (List.mem_of_getElem? (i := 21) rfl)
theorem ml_X9_279 : Cond.methodLink RX9 279 yX9_bitsOf ∈ gw := gch36 _ (List.mem_of_getElem? (i := 22) rfl)
theorem st_X9_bitsOf : Cond.static yX9_bitsOf ∈ gw := gch36 _ (List.mem_of_getElem? (i := 23) rfl)
theorem co_X9_bitsOf : Cond.code yX9_bitsOf cX9_bitsOf 9 (some .long) ∈ gw := gch37 _ (List.mem_of_getElem? (i := 0) rfl)
theorem kk_X9_307 : Cond.constantDouble RX9 307 (4611686018427387904) ∈ gw := gch37 _ (List.mem_of_getElem? (i := 1) rfl)
theorem kk_X9_309 : Cond.constantDouble RX9 309 (4841369599423283200) ∈ gw := gch37 _ (List.mem_of_getElem? (i := 2) rfl)
theorem kk_X9_313 : Cond.constantLong RX9 313 (-9223372036854775808) ∈ gw := gch37 _ (List.mem_of_getElem? (i := 3) rfl)
theorem ml_X9_283 : Cond.methodLink RX9 283 yX9_ifLimit ∈ gw := gch37 _ (List.mem_of_getElem? (i := 4) rfl)
theorem ml_X9_286 : Cond.methodLink RX9 286 yX9_greatest ∈ gw := gch37 _ (List.mem_of_getElem? (i := 5) rfl)
theorem ml_X9_290 : Cond.methodLink RX9 290 yX9_limitFor ∈ gw := gch37 _ (List.mem_of_getElem? (i := 6) rfl)
theorem ml_X9_293 : Cond.methodLink RX9 293 yX9_slightest ∈ gw := gch37 _ (List.mem_of_getElem? (i := 7) rfl)
theorem ml_X9_296 : Cond.methodLink RX9 296 yX8_codeAt ∈ gw := gch37 _ (List.mem_of_getElem? (i := 8) rfl)
theorem ml_L_177 : Cond.methodLink RL 177 yX10_digest ∈ gw := gch37 _ (List.mem_of_getElem? (i := 9) rfl)
theorem im_X10_digest : Cond.instanceMethod yX10_digest ∈ gw := gch37 _ (List.mem_of_getElem? (i := 10) rfl)
theorem se_X10_digest : Cond.selects RX10 yX10_digest yX10_digest ∈ gw := gch37 _ (List.mem_of_getElem? (i := 11) rfl)
theorem co_X10_digest : Cond.code yX10_digest cX10_digest 2 (some .long) ∈ gw := gch37 _ (List.mem_of_getElem? (i := 12) rfl)
theorem kk_X10_219 : Cond.constantLong RX10 219 (2657) ∈ gw := gch37 _ (List.mem_of_getElem? (i := 13) rfl)
theorem fl_X10_211 : Cond.fieldLink RX10 211 "RareFaultsModel" "hash" "J" ∈ gw := gch37 _ (List.mem_of_getElem? (i := 14) rfl)
theorem ml_X10_215 : Cond.methodLink RX10 215 yX10_mix ∈ gw := gch37 _ (List.mem_of_getElem? (i := 15) rfl)
theorem im_X10_mix : Cond.instanceMethod yX10_mix ∈ gw := gch37 _ (List.mem_of_getElem? (i := 16) rfl)
theorem se_X10_mix : Cond.selects RX10 yX10_mix yX10_mix ∈ gw := gch37 _ (List.mem_of_getElem? (i := 17) rfl)
theorem co_X10_mix : Cond.code yX10_mix cX10_mix 3 none ∈ gw := gch37 _ (List.mem_of_getElem? (i := 18) rfl)
theorem kk_X10_209 : Cond.constantLong RX10 209 (31) ∈ gw := gch37 _ (List.mem_of_getElem? (i := 19) rfl)
theorem ml_X10_221 : Cond.methodLink RX10 221 yX10_mixPart ∈ gw := gch37 _ (List.mem_of_getElem? (i := 20) rfl)
theorem im_X10_mixPart : Cond.instanceMethod yX10_mixPart ∈ gw := gch37 _ (List.mem_of_getElem? (i := 21) rfl)
theorem se_X10_mixPart : Cond.selects RX10 yX10_mixPart yX10_mixPart ∈ gw := gch37 _ (List.mem_of_getElem? (i := 22) rfl)
theorem co_X10_mixPart : Cond.code yX10_mixPart cX10_mixPart 3 none ∈ gw := gch37 _ (List.mem_of_getElem? (i := 23) rfl)
theorem ml_X10_224 : Cond.methodLink RX10 224 yJxe99ae_doubleToLongBits_ccdee ∈ gw := gch38 _ (List.mem_of_getElem? (i := 0) rfl)
theorem st_Jxe99ae_doubleToLongBits_ccdee : Cond.static yJxe99ae_doubleToLongBits_ccdee ∈ gw := gch38 _ (List.mem_of_getElem? (i := 1) rfl)
theorem in_Jxe99ae : Cond.initialized RJxe99ae ∈ gw := gch38 _ (List.mem_of_getElem? (i := 2) rfl)
theorem co_Jxe99ae_doubleToLongBits_ccdee : Cond.code yJxe99ae_doubleToLongBits_ccdee cJxe99ae_doubleToLongBits_ccdee 2 (some .long) ∈ gw := gch38 _ (List.mem_of_getElem? (i := 3) rfl)
theorem ml_Jxe99ae_134 : Cond.methodLink RJxe99ae 134 ⟨"java/lang/Double", "doubleToRawLongBits", "(D)J"⟩ ∈ gw := gch38 _ (List.mem_of_getElem? (i := 4) rfl)
theorem na_bits : Cond.native ⟨"java/lang/Double", "doubleToRawLongBits", "(D)J"⟩ ∈ gw := gch38 _ (List.mem_of_getElem? (i := 5) rfl)
theorem st__java_lang_Double_doubleToRawLongBits_D_J_ : Cond.static ⟨"java/lang/Double", "doubleToRawLongBits", "(D)J"⟩ ∈ gw := gch38 _ (List.mem_of_getElem? (i := 6) rfl)
theorem in_Double : Cond.initialized "java/lang/Double" ∈ gw := gch38 _ (List.mem_of_getElem? (i := 7) rfl)
theorem kk_Jxe99ae_137 : Cond.constantLong RJxe99ae 137 (9221120237041090560) ∈ gw := gch38 _ (List.mem_of_getElem? (i := 8) rfl)
theorem ml_Jxe99ae_122 : Cond.methodLink RJxe99ae 122 yJxe99ae_isNaN_b9ae7 ∈ gw := gch38 _ (List.mem_of_getElem? (i := 9) rfl)
theorem st_Jxe99ae_isNaN_b9ae7 : Cond.static yJxe99ae_isNaN_b9ae7 ∈ gw := gch38 _ (List.mem_of_getElem? (i := 10) rfl)
theorem co_Jxe99ae_isNaN_b9ae7 : Cond.code yJxe99ae_isNaN_b9ae7 cJxe99ae_isNaN_b9ae7 2 (some .boolean) ∈ gw := gch38 _ (List.mem_of_getElem? (i := 11) rfl)
theorem lay_X0 : ∀ w ∈ u_ws RX0 TX0 1, w ∈ gw := inlX0
theorem lay_X1 : ∀ w ∈ u_ws RX1 TX1 1, w ∈ gw := inlX1
theorem lay_X2 : ∀ w ∈ u_ws RX2 TX2 3, w ∈ gw := inlX2
theorem lay_X3 : ∀ w ∈ u_ws RX3 TX3 1, w ∈ gw := inlX3
theorem lay_X4 : ∀ w ∈ u_ws RX4 TX4 6, w ∈ gw := inlX4
theorem lay_X5 : ∀ w ∈ u_ws RX5 TX5 7, w ∈ gw := inlX5
theorem lay_X6 : ∀ w ∈ u_ws RX6 TX6 3, w ∈ gw := inlX6
theorem lay_X7 : ∀ w ∈ u_ws RX7 TX7 1, w ∈ gw := inlX7
theorem lay_X8 : ∀ w ∈ u_ws RX8 TX8 2, w ∈ gw := inlX8
theorem lay_X9 : ∀ w ∈ u_ws RX9 TX9 6, w ∈ gw := inlX9
theorem lay_X10 : ∀ w ∈ u_ws RX10 TX10 16, w ∈ gw := inlX10
set_option maxRecDepth 20000 in
theorem gw_good0 : wsL_law0.all goodWord = true := by decide +kernel
theorem gw_good : ∀ w ∈ gw, goodWord w = true := by
  intro w h
  rcases List.mem_append.mp h with h | h
  · rcases List.mem_append.mp h with h | h
    · rcases List.mem_append.mp h with h | h
      · exact List.all_eq_true.mp gw_good0 w h
      · exact (List.mem_filter.mp h).2
    · exact (List.mem_filter.mp h).2
  · exact (List.mem_filter.mp h).2
theorem gw_goodIn (w : Cond) (h : w ∈ gw) : w ∈ gw ∧ ((w.onTables && w.keeps) = true ∨ ∃ ty, w = .arrayClass ty) := ⟨h, good_of_word (gw_good w h)⟩
def MKv (y : MethodName) (cc : ByteArray) (nL : Nat) (ret : Option FieldType) (C : String) (n : Nat) : Prop := (y.cls = C ∧ y.cls ≠ "java/lang/invoke/MethodHandle" ∧ y.cls ≠ "java/lang/invoke/VarHandle" ∧ (parseMethodDescriptor y.desc).map (fun d => d.parameters.length) = some n) ∧ Cond.code y cc nL ret ∈ gw ∧ Cond.initialized C ∈ gw ∧ Cond.instanceMethod y ∈ gw ∧ Cond.selects C y y ∈ gw
def MKi (y : MethodName) (cc : ByteArray) (nL : Nat) (C : String) (n : Nat) : Prop := (y.cls = C ∧ y.cls ≠ "java/lang/invoke/MethodHandle" ∧ y.cls ≠ "java/lang/invoke/VarHandle" ∧ (parseMethodDescriptor y.desc).map (fun d => d.parameters.length) = some n) ∧ y.name = "<init>" ∧ Cond.code y cc nL none ∈ gw ∧ Cond.initialized C ∈ gw ∧ Cond.instanceMethod y ∈ gw
def MKs (y : MethodName) (cc : ByteArray) (nL : Nat) (ret : Option FieldType) (C : String) (n : Nat) : Prop := (y.cls = C ∧ y.cls ≠ "java/lang/invoke/MethodHandle" ∧ y.cls ≠ "java/lang/invoke/VarHandle" ∧ (parseMethodDescriptor y.desc).map (fun d => d.parameters.length) = some n) ∧ Cond.code y cc nL ret ∈ gw ∧ Cond.initialized C ∈ gw ∧ Cond.static y ∈ gw
def MKx (y : MethodName) (cc : ByteArray) (nL : Nat) (ret : Option FieldType) (hh : List (Nat × Nat × Nat × Nat)) (C : String) (n : Nat) : Prop := (y.cls = C ∧ y.cls ≠ "java/lang/invoke/MethodHandle" ∧ y.cls ≠ "java/lang/invoke/VarHandle" ∧ (parseMethodDescriptor y.desc).map (fun d => d.parameters.length) = some n) ∧ Cond.codeWith y cc nL ret hh ∈ gw ∧ Cond.initialized C ∈ gw ∧ Cond.static y ∈ gw
theorem mk_X9_init : MKi yX9_init cX9_init 1 RX9 0 := ⟨⟨by decide +kernel, by decide +kernel, by decide +kernel, by decide +kernel⟩, by decide +kernel, co_X9_init, in_X9, im_X9_init⟩
theorem mk_X4_init : MKi yX4_init cX4_init 1 RX4 0 := ⟨⟨by decide +kernel, by decide +kernel, by decide +kernel, by decide +kernel⟩, by decide +kernel, co_X4_init, in_X4, im_X4_init⟩
theorem mk_X7_init : MKi yX7_init cX7_init 1 RX7 0 := ⟨⟨by decide +kernel, by decide +kernel, by decide +kernel, by decide +kernel⟩, by decide +kernel, co_X7_init, in_X7, im_X7_init⟩
theorem mk_X5_init : MKi yX5_init cX5_init 1 RX5 0 := ⟨⟨by decide +kernel, by decide +kernel, by decide +kernel, by decide +kernel⟩, by decide +kernel, co_X5_init, in_X5, im_X5_init⟩
theorem mk_X2_init : MKi yX2_init cX2_init 1 RX2 0 := ⟨⟨by decide +kernel, by decide +kernel, by decide +kernel, by decide +kernel⟩, by decide +kernel, co_X2_init, in_X2, im_X2_init⟩
theorem mk_X8_init : MKi yX8_init cX8_init 1 RX8 0 := ⟨⟨by decide +kernel, by decide +kernel, by decide +kernel, by decide +kernel⟩, by decide +kernel, co_X8_init, in_X8, im_X8_init⟩
theorem mk_X1_init : MKi yX1_init cX1_init 1 RX1 0 := ⟨⟨by decide +kernel, by decide +kernel, by decide +kernel, by decide +kernel⟩, by decide +kernel, co_X1_init, in_X1, im_X1_init⟩
theorem mk_X3_init : MKi yX3_init cX3_init 1 RX3 0 := ⟨⟨by decide +kernel, by decide +kernel, by decide +kernel, by decide +kernel⟩, by decide +kernel, co_X3_init, in_X3, im_X3_init⟩
theorem mk_X0_init : MKi yX0_init cX0_init 1 RX0 0 := ⟨⟨by decide +kernel, by decide +kernel, by decide +kernel, by decide +kernel⟩, by decide +kernel, co_X0_init, in_X0, im_X0_init⟩
theorem mk_X10_init : MKi yX10_init cX10_init 1 RX10 0 := ⟨⟨by decide +kernel, by decide +kernel, by decide +kernel, by decide +kernel⟩, by decide +kernel, co_X10_init, in_X10, im_X10_init⟩
theorem mk_L_addPart : MKx yL_addPart cL_addPart 4 (some .int) [(0, 9, 12, 13), (0, 9, 15, 15)] RL 3 := ⟨⟨by decide +kernel, by decide +kernel, by decide +kernel, by decide +kernel⟩, cx_L_addPart, in_L, st_L_addPart⟩
theorem mk_X9_addPart : MKv yX9_addPart cX9_addPart 4 (some .int) RX9 1 := ⟨⟨by decide +kernel, by decide +kernel, by decide +kernel, by decide +kernel⟩, co_X9_addPart, in_X9, im_X9_addPart, se_X9_addPart⟩
theorem mk_X2_save : MKv yX2_save cX2_save 3 none RX2 1 := ⟨⟨by decide +kernel, by decide +kernel, by decide +kernel, by decide +kernel⟩, co_X2_save, in_X2, im_X2_save, se_X2_save⟩
theorem mk_X4_copyFrom : MKv yX4_copyFrom cX4_copyFrom 2 none RX4 1 := ⟨⟨by decide +kernel, by decide +kernel, by decide +kernel, by decide +kernel⟩, co_X4_copyFrom, in_X4, im_X4_copyFrom, se_X4_copyFrom⟩
theorem mk_X7_copyFrom : MKv yX7_copyFrom cX7_copyFrom 3 none RX7 1 := ⟨⟨by decide +kernel, by decide +kernel, by decide +kernel, by decide +kernel⟩, co_X7_copyFrom, in_X7, im_X7_copyFrom, se_X7_copyFrom⟩
theorem mk_X5_copyFrom : MKv yX5_copyFrom cX5_copyFrom 3 none RX5 1 := ⟨⟨by decide +kernel, by decide +kernel, by decide +kernel, by decide +kernel⟩, co_X5_copyFrom, in_X5, im_X5_copyFrom, se_X5_copyFrom⟩
theorem mk_X4_addEmptyPart : MKv yX4_addEmptyPart cX4_addEmptyPart 1 (some .int) RX4 0 := ⟨⟨by decide +kernel, by decide +kernel, by decide +kernel, by decide +kernel⟩, co_X4_addEmptyPart, in_X4, im_X4_addEmptyPart, se_X4_addEmptyPart⟩
theorem mk_X5_clear : MKv yX5_clear cX5_clear 1 none RX5 0 := ⟨⟨by decide +kernel, by decide +kernel, by decide +kernel, by decide +kernel⟩, co_X5_clear, in_X5, im_X5_clear, se_X5_clear⟩
theorem mk_X4_setBothWeights : MKv yX4_setBothWeights cX4_setBothWeights 4 none RX4 3 := ⟨⟨by decide +kernel, by decide +kernel, by decide +kernel, by decide +kernel⟩, co_X4_setBothWeights, in_X4, im_X4_setBothWeights, se_X4_setBothWeights⟩
theorem mk_X7_set : MKv yX7_set cX7_set 4 none RX7 3 := ⟨⟨by decide +kernel, by decide +kernel, by decide +kernel, by decide +kernel⟩, co_X7_set, in_X7, im_X7_set, se_X7_set⟩
theorem mk_X10_addPart : MKv yX10_addPart cX10_addPart 4 (some .int) RX10 1 := ⟨⟨by decide +kernel, by decide +kernel, by decide +kernel, by decide +kernel⟩, co_X10_addPart, in_X10, im_X10_addPart, se_X10_addPart⟩
theorem mk_X10_isLoad : MKs yX10_isLoad cX10_isLoad 1 (some .boolean) RX10 1 := ⟨⟨by decide +kernel, by decide +kernel, by decide +kernel, by decide +kernel⟩, co_X10_isLoad, in_X10, st_X10_isLoad⟩
theorem mk_X10_within : MKs yX10_within cX10_within 3 (some .boolean) RX10 3 := ⟨⟨by decide +kernel, by decide +kernel, by decide +kernel, by decide +kernel⟩, co_X10_within, in_X10, st_X10_within⟩
theorem mk_X10_save : MKv yX10_save cX10_save 2 none RX10 0 := ⟨⟨by decide +kernel, by decide +kernel, by decide +kernel, by decide +kernel⟩, co_X10_save, in_X10, im_X10_save, se_X10_save⟩
theorem mk_X10_forgets : MKv yX10_forgets cX10_forgets 3 (some .int) RX10 0 := ⟨⟨by decide +kernel, by decide +kernel, by decide +kernel, by decide +kernel⟩, co_X10_forgets, in_X10, im_X10_forgets, se_X10_forgets⟩
theorem mk_X10_layPart : MKv yX10_layPart cX10_layPart 3 none RX10 1 := ⟨⟨by decide +kernel, by decide +kernel, by decide +kernel, by decide +kernel⟩, co_X10_layPart, in_X10, im_X10_layPart, se_X10_layPart⟩
theorem mk_X10_weightOf : MKv yX10_weightOf cX10_weightOf 3 (some .int) RX10 2 := ⟨⟨by decide +kernel, by decide +kernel, by decide +kernel, by decide +kernel⟩, co_X10_weightOf, in_X10, im_X10_weightOf, se_X10_weightOf⟩
theorem mk_X10_thrown : MKv yX10_thrown cX10_thrown 1 (some .int) RX10 0 := ⟨⟨by decide +kernel, by decide +kernel, by decide +kernel, by decide +kernel⟩, co_X10_thrown, in_X10, im_X10_thrown, se_X10_thrown⟩
theorem mk_L_removePart : MKx yL_removePart cL_removePart 4 (some .int) [(0, 9, 12, 20)] RL 3 := ⟨⟨by decide +kernel, by decide +kernel, by decide +kernel, by decide +kernel⟩, cx_L_removePart, in_L, st_L_removePart⟩
theorem mk_X9_removePart : MKv yX9_removePart cX9_removePart 2 (some .int) RX9 1 := ⟨⟨by decide +kernel, by decide +kernel, by decide +kernel, by decide +kernel⟩, co_X9_removePart, in_X9, im_X9_removePart, se_X9_removePart⟩
theorem mk_X9_requirePart : MKv yX9_requirePart cX9_requirePart 2 none RX9 1 := ⟨⟨by decide +kernel, by decide +kernel, by decide +kernel, by decide +kernel⟩, co_X9_requirePart, in_X9, im_X9_requirePart, se_X9_requirePart⟩
theorem mk_X4_dropPart : MKv yX4_dropPart cX4_dropPart 2 none RX4 1 := ⟨⟨by decide +kernel, by decide +kernel, by decide +kernel, by decide +kernel⟩, co_X4_dropPart, in_X4, im_X4_dropPart, se_X4_dropPart⟩
theorem mk_X7_dropRow : MKv yX7_dropRow cX7_dropRow 4 none RX7 1 := ⟨⟨by decide +kernel, by decide +kernel, by decide +kernel, by decide +kernel⟩, co_X7_dropRow, in_X7, im_X7_dropRow, se_X7_dropRow⟩
theorem mk_X7_get : MKv yX7_get cX7_get 4 (some .int) RX7 2 := ⟨⟨by decide +kernel, by decide +kernel, by decide +kernel, by decide +kernel⟩, co_X7_get, in_X7, im_X7_get, se_X7_get⟩
theorem mk_X10_removePart : MKv yX10_removePart cX10_removePart 3 (some .int) RX10 1 := ⟨⟨by decide +kernel, by decide +kernel, by decide +kernel, by decide +kernel⟩, co_X10_removePart, in_X10, im_X10_removePart, se_X10_removePart⟩
theorem mk_X10_isPart : MKv yX10_isPart cX10_isPart 2 (some .boolean) RX10 1 := ⟨⟨by decide +kernel, by decide +kernel, by decide +kernel, by decide +kernel⟩, co_X10_isPart, in_X10, im_X10_isPart, se_X10_isPart⟩
theorem mk_X10_removeFrom : MKv yX10_removeFrom cX10_removeFrom 4 none RX10 2 := ⟨⟨by decide +kernel, by decide +kernel, by decide +kernel, by decide +kernel⟩, co_X10_removeFrom, in_X10, im_X10_removeFrom, se_X10_removeFrom⟩
theorem mk_L_weigh : MKx yL_weigh cL_weigh 6 (some .int) [(0, 12, 15, 20), (0, 12, 19, 13), (0, 12, 23, 15)] RL 5 := ⟨⟨by decide +kernel, by decide +kernel, by decide +kernel, by decide +kernel⟩, cx_L_weigh, in_L, st_L_weigh⟩
theorem mk_X9_weigh : MKv yX9_weigh cX9_weigh 5 (some .int) RX9 3 := ⟨⟨by decide +kernel, by decide +kernel, by decide +kernel, by decide +kernel⟩, co_X9_weigh, in_X9, im_X9_weigh, se_X9_weigh⟩
theorem mk_X9_requireLoad : MKs yX9_requireLoad cX9_requireLoad 1 none RX9 1 := ⟨⟨by decide +kernel, by decide +kernel, by decide +kernel, by decide +kernel⟩, co_X9_requireLoad, in_X9, st_X9_requireLoad⟩
theorem mk_X9_requireRange : MKs yX9_requireRange cX9_requireRange 3 none RX9 3 := ⟨⟨by decide +kernel, by decide +kernel, by decide +kernel, by decide +kernel⟩, co_X9_requireRange, in_X9, st_X9_requireRange⟩
theorem mk_X7_totalOf : MKv yX7_totalOf cX7_totalOf 4 (some .int) RX7 1 := ⟨⟨by decide +kernel, by decide +kernel, by decide +kernel, by decide +kernel⟩, co_X7_totalOf, in_X7, im_X7_totalOf, se_X7_totalOf⟩
theorem mk_X4_setWeight : MKv yX4_setWeight cX4_setWeight 4 none RX4 3 := ⟨⟨by decide +kernel, by decide +kernel, by decide +kernel, by decide +kernel⟩, co_X4_setWeight, in_X4, im_X4_setWeight, se_X4_setWeight⟩
theorem mk_X10_weigh : MKv yX10_weigh cX10_weigh 6 (some .int) RX10 3 := ⟨⟨by decide +kernel, by decide +kernel, by decide +kernel, by decide +kernel⟩, co_X10_weigh, in_X10, im_X10_weigh, se_X10_weigh⟩
theorem mk_X10_totalOf : MKv yX10_totalOf cX10_totalOf 4 (some .int) RX10 1 := ⟨⟨by decide +kernel, by decide +kernel, by decide +kernel, by decide +kernel⟩, co_X10_totalOf, in_X10, im_X10_totalOf, se_X10_totalOf⟩
theorem mk_X10_tiltedOf : MKv yX10_tiltedOf cX10_tiltedOf 3 (some .int) RX10 2 := ⟨⟨by decide +kernel, by decide +kernel, by decide +kernel, by decide +kernel⟩, co_X10_tiltedOf, in_X10, im_X10_tiltedOf, se_X10_tiltedOf⟩
theorem mk_L_tilt : MKx yL_tilt cL_tilt 6 (some .int) [(0, 12, 15, 20), (0, 12, 19, 13), (0, 12, 23, 15)] RL 5 := ⟨⟨by decide +kernel, by decide +kernel, by decide +kernel, by decide +kernel⟩, cx_L_tilt, in_L, st_L_tilt⟩
theorem mk_X9_tilt : MKv yX9_tilt cX9_tilt 5 (some .int) RX9 3 := ⟨⟨by decide +kernel, by decide +kernel, by decide +kernel, by decide +kernel⟩, co_X9_tilt, in_X9, im_X9_tilt, se_X9_tilt⟩
theorem mk_X4_setTilted : MKv yX4_setTilted cX4_setTilted 4 none RX4 3 := ⟨⟨by decide +kernel, by decide +kernel, by decide +kernel, by decide +kernel⟩, co_X4_setTilted, in_X4, im_X4_setTilted, se_X4_setTilted⟩
theorem mk_X10_tilt : MKv yX10_tilt cX10_tilt 6 (some .int) RX10 3 := ⟨⟨by decide +kernel, by decide +kernel, by decide +kernel, by decide +kernel⟩, co_X10_tilt, in_X10, im_X10_tilt, se_X10_tilt⟩
theorem mk_L_tiltAll : MKx yL_tiltAll cL_tiltAll 4 (some .int) [(0, 9, 12, 13)] RL 3 := ⟨⟨by decide +kernel, by decide +kernel, by decide +kernel, by decide +kernel⟩, cx_L_tiltAll, in_L, st_L_tiltAll⟩
theorem mk_X9_tiltAll : MKv yX9_tiltAll cX9_tiltAll 2 (some .int) RX9 1 := ⟨⟨by decide +kernel, by decide +kernel, by decide +kernel, by decide +kernel⟩, co_X9_tiltAll, in_X9, im_X9_tiltAll, se_X9_tiltAll⟩
theorem mk_X4_tiltBy : MKv yX4_tiltBy cX4_tiltBy 5 none RX4 1 := ⟨⟨by decide +kernel, by decide +kernel, by decide +kernel, by decide +kernel⟩, co_X4_tiltBy, in_X4, im_X4_tiltBy, se_X4_tiltBy⟩
theorem mk_X4_sumOfTiltedTotals : MKv yX4_sumOfTiltedTotals cX4_sumOfTiltedTotals 3 (some .int) RX4 0 := ⟨⟨by decide +kernel, by decide +kernel, by decide +kernel, by decide +kernel⟩, co_X4_sumOfTiltedTotals, in_X4, im_X4_sumOfTiltedTotals, se_X4_sumOfTiltedTotals⟩
theorem mk_X10_tiltAll : MKv yX10_tiltAll cX10_tiltAll 7 (some .int) RX10 1 := ⟨⟨by decide +kernel, by decide +kernel, by decide +kernel, by decide +kernel⟩, co_X10_tiltAll, in_X10, im_X10_tiltAll, se_X10_tiltAll⟩
theorem mk_X10_tiltedTotalOf : MKv yX10_tiltedTotalOf cX10_tiltedTotalOf 4 (some .int) RX10 1 := ⟨⟨by decide +kernel, by decide +kernel, by decide +kernel, by decide +kernel⟩, co_X10_tiltedTotalOf, in_X10, im_X10_tiltedTotalOf, se_X10_tiltedTotalOf⟩
theorem mk_L_limit : MKx yL_limit cL_limit 4 (some .int) [(0, 9, 12, 13)] RL 3 := ⟨⟨by decide +kernel, by decide +kernel, by decide +kernel, by decide +kernel⟩, cx_L_limit, in_L, st_L_limit⟩
theorem mk_X9_limit : MKv yX9_limit cX9_limit 3 (some .int) RX9 1 := ⟨⟨by decide +kernel, by decide +kernel, by decide +kernel, by decide +kernel⟩, co_X9_limit, in_X9, im_X9_limit, se_X9_limit⟩
theorem mk_X4_setLimit : MKv yX4_setLimit cX4_setLimit 2 none RX4 1 := ⟨⟨by decide +kernel, by decide +kernel, by decide +kernel, by decide +kernel⟩, co_X4_setLimit, in_X4, im_X4_setLimit, se_X4_setLimit⟩
theorem mk_X10_limit : MKv yX10_limit cX10_limit 4 (some .int) RX10 1 := ⟨⟨by decide +kernel, by decide +kernel, by decide +kernel, by decide +kernel⟩, co_X10_limit, in_X10, im_X10_limit, se_X10_limit⟩
theorem mk_X10_isLimit : MKs yX10_isLimit cX10_isLimit 1 (some .boolean) RX10 1 := ⟨⟨by decide +kernel, by decide +kernel, by decide +kernel, by decide +kernel⟩, co_X10_isLimit, in_X10, st_X10_isLimit⟩
theorem mk_L_seed : MKx yL_seed cL_seed 4 (some .int) [(0, 9, 12, 13)] RL 3 := ⟨⟨by decide +kernel, by decide +kernel, by decide +kernel, by decide +kernel⟩, cx_L_seed, in_L, st_L_seed⟩
theorem mk_X9_seed : MKv yX9_seed cX9_seed 3 (some .int) RX9 1 := ⟨⟨by decide +kernel, by decide +kernel, by decide +kernel, by decide +kernel⟩, co_X9_seed, in_X9, im_X9_seed, se_X9_seed⟩
theorem mk_X10_seed : MKv yX10_seed cX10_seed 3 (some .int) RX10 1 := ⟨⟨by decide +kernel, by decide +kernel, by decide +kernel, by decide +kernel⟩, co_X10_seed, in_X10, im_X10_seed, se_X10_seed⟩
theorem mk_L_draw : MKx yL_draw cL_draw 4 (some .int) [(0, 9, 12, 13), (0, 9, 15, 15)] RL 3 := ⟨⟨by decide +kernel, by decide +kernel, by decide +kernel, by decide +kernel⟩, cx_L_draw, in_L, st_L_draw⟩
theorem mk_X9_draw : MKv yX9_draw cX9_draw 4 (some .int) RX9 1 := ⟨⟨by decide +kernel, by decide +kernel, by decide +kernel, by decide +kernel⟩, co_X9_draw, in_X9, im_X9_draw, se_X9_draw⟩
theorem mk_X4_drawRow : MKv yX4_drawRow cX4_drawRow 6 none RX4 0 := ⟨⟨by decide +kernel, by decide +kernel, by decide +kernel, by decide +kernel⟩, co_X4_drawRow, in_X4, im_X4_drawRow, se_X4_drawRow⟩
theorem mk_X4_drawLoad : MKv yX4_drawLoad cX4_drawLoad 6 (some .int) RX4 1 := ⟨⟨by decide +kernel, by decide +kernel, by decide +kernel, by decide +kernel⟩, co_X4_drawLoad, in_X4, im_X4_drawLoad, se_X4_drawLoad⟩
theorem mk_X5_setLatestLoad : MKv yX5_setLatestLoad cX5_setLatestLoad 3 none RX5 2 := ⟨⟨by decide +kernel, by decide +kernel, by decide +kernel, by decide +kernel⟩, co_X5_setLatestLoad, in_X5, im_X5_setLatestLoad, se_X5_setLatestLoad⟩
theorem mk_X4_corrected : MKv yX4_corrected cX4_corrected 7 (some .double) RX4 3 := ⟨⟨by decide +kernel, by decide +kernel, by decide +kernel, by decide +kernel⟩, co_X4_corrected, in_X4, im_X4_corrected, se_X4_corrected⟩
theorem mk_X5_add : MKv yX5_add cX5_add 4 none RX5 2 := ⟨⟨by decide +kernel, by decide +kernel, by decide +kernel, by decide +kernel⟩, co_X5_add, in_X5, im_X5_add, se_X5_add⟩
theorem mk_X10_draw : MKv yX10_draw cX10_draw 5 (some .int) RX10 1 := ⟨⟨by decide +kernel, by decide +kernel, by decide +kernel, by decide +kernel⟩, co_X10_draw, in_X10, im_X10_draw, se_X10_draw⟩
theorem mk_X10_drawRow : MKv yX10_drawRow cX10_drawRow 6 (some .int) RX10 0 := ⟨⟨by decide +kernel, by decide +kernel, by decide +kernel, by decide +kernel⟩, co_X10_drawRow, in_X10, im_X10_drawRow, se_X10_drawRow⟩
theorem mk_X10_drawLoad : MKv yX10_drawLoad cX10_drawLoad 7 (some .int) RX10 1 := ⟨⟨by decide +kernel, by decide +kernel, by decide +kernel, by decide +kernel⟩, co_X10_drawLoad, in_X10, im_X10_drawLoad, se_X10_drawLoad⟩
theorem mk_X10_corrected : MKv yX10_corrected cX10_corrected 7 (some .double) RX10 3 := ⟨⟨by decide +kernel, by decide +kernel, by decide +kernel, by decide +kernel⟩, co_X10_corrected, in_X10, im_X10_corrected, se_X10_corrected⟩
theorem mk_X9_forget : MKv yX9_forget cX9_forget 2 (some .int) RX9 0 := ⟨⟨by decide +kernel, by decide +kernel, by decide +kernel, by decide +kernel⟩, co_X9_forget, in_X9, im_X9_forget, se_X9_forget⟩
theorem mk_X10_forget : MKv yX10_forget cX10_forget 1 (some .int) RX10 0 := ⟨⟨by decide +kernel, by decide +kernel, by decide +kernel, by decide +kernel⟩, co_X10_forget, in_X10, im_X10_forget, se_X10_forget⟩
theorem mk_L_append : MKx yL_append cL_append 4 (some .int) [(0, 9, 12, 13), (0, 9, 15, 15)] RL 3 := ⟨⟨by decide +kernel, by decide +kernel, by decide +kernel, by decide +kernel⟩, cx_L_append, in_L, st_L_append⟩
theorem mk_X9_append : MKv yX9_append cX9_append 2 (some .int) RX9 1 := ⟨⟨by decide +kernel, by decide +kernel, by decide +kernel, by decide +kernel⟩, co_X9_append, in_X9, im_X9_append, se_X9_append⟩
theorem mk_X8_add : MKv yX8_add cX8_add 2 none RX8 1 := ⟨⟨by decide +kernel, by decide +kernel, by decide +kernel, by decide +kernel⟩, co_X8_add, in_X8, im_X8_add, se_X8_add⟩
theorem mk_X10_append : MKv yX10_append cX10_append 2 (some .int) RX10 1 := ⟨⟨by decide +kernel, by decide +kernel, by decide +kernel, by decide +kernel⟩, co_X10_append, in_X10, im_X10_append, se_X10_append⟩
theorem mk_X9_clearBuffer : MKv yX9_clearBuffer cX9_clearBuffer 2 (some .int) RX9 0 := ⟨⟨by decide +kernel, by decide +kernel, by decide +kernel, by decide +kernel⟩, co_X9_clearBuffer, in_X9, im_X9_clearBuffer, se_X9_clearBuffer⟩
theorem mk_X8_clear : MKv yX8_clear cX8_clear 1 none RX8 0 := ⟨⟨by decide +kernel, by decide +kernel, by decide +kernel, by decide +kernel⟩, co_X8_clear, in_X8, im_X8_clear, se_X8_clear⟩
theorem mk_X10_clearBuffer : MKv yX10_clearBuffer cX10_clearBuffer 2 (some .int) RX10 0 := ⟨⟨by decide +kernel, by decide +kernel, by decide +kernel, by decide +kernel⟩, co_X10_clearBuffer, in_X10, im_X10_clearBuffer, se_X10_clearBuffer⟩
theorem mk_X9_firstError : MKv yX9_firstError cX9_firstError 1 (some .int) RX9 0 := ⟨⟨by decide +kernel, by decide +kernel, by decide +kernel, by decide +kernel⟩, co_X9_firstError, in_X9, im_X9_firstError, se_X9_firstError⟩
theorem mk_X6_init : MKi yX6_init cX6_init 1 RX6 0 := ⟨⟨by decide +kernel, by decide +kernel, by decide +kernel, by decide +kernel⟩, by decide +kernel, co_X6_init, in_X6, im_X6_init⟩
theorem mk_X6_read : MKv yX6_read cX6_read 3 (some .int) RX6 1 := ⟨⟨by decide +kernel, by decide +kernel, by decide +kernel, by decide +kernel⟩, co_X6_read, in_X6, im_X6_read, se_X6_read⟩
theorem mk_X8_codeAt : MKv yX8_codeAt cX8_codeAt 2 (some .int) RX8 1 := ⟨⟨by decide +kernel, by decide +kernel, by decide +kernel, by decide +kernel⟩, co_X8_codeAt, in_X8, im_X8_codeAt, se_X8_codeAt⟩
theorem mk_X6_accepts : MKv yX6_accepts cX6_accepts 2 (some .boolean) RX6 1 := ⟨⟨by decide +kernel, by decide +kernel, by decide +kernel, by decide +kernel⟩, co_X6_accepts, in_X6, im_X6_accepts, se_X6_accepts⟩
theorem mk_X6_acceptsNextPart : MKv yX6_acceptsNextPart cX6_acceptsNextPart 2 (some .boolean) RX6 0 := ⟨⟨by decide +kernel, by decide +kernel, by decide +kernel, by decide +kernel⟩, co_X6_acceptsNextPart, in_X6, im_X6_acceptsNextPart, se_X6_acceptsNextPart⟩
theorem mk_X6_acceptsDigit : MKv yX6_acceptsDigit cX6_acceptsDigit 2 (some .boolean) RX6 1 := ⟨⟨by decide +kernel, by decide +kernel, by decide +kernel, by decide +kernel⟩, co_X6_acceptsDigit, in_X6, im_X6_acceptsDigit, se_X6_acceptsDigit⟩
theorem mk_X10_firstError : MKv yX10_firstError cX10_firstError 1 (some .int) RX10 0 := ⟨⟨by decide +kernel, by decide +kernel, by decide +kernel, by decide +kernel⟩, co_X10_firstError, in_X10, im_X10_firstError, se_X10_firstError⟩
theorem mk_X10_rightUpTo : MKv yX10_rightUpTo cX10_rightUpTo 2 (some .int) RX10 0 := ⟨⟨by decide +kernel, by decide +kernel, by decide +kernel, by decide +kernel⟩, co_X10_rightUpTo, in_X10, im_X10_rightUpTo, se_X10_rightUpTo⟩
theorem mk_X10_beginPart : MKv yX10_beginPart cX10_beginPart 2 none RX10 0 := ⟨⟨by decide +kernel, by decide +kernel, by decide +kernel, by decide +kernel⟩, co_X10_beginPart, in_X10, im_X10_beginPart, se_X10_beginPart⟩
theorem mk_X10_takes : MKv yX10_takes cX10_takes 4 (some .boolean) RX10 1 := ⟨⟨by decide +kernel, by decide +kernel, by decide +kernel, by decide +kernel⟩, co_X10_takes, in_X10, im_X10_takes, se_X10_takes⟩
theorem mk_L_addAll : MKx yL_addAll cL_addAll 3 (some .int) [(0, 8, 11, 13), (0, 8, 14, 15)] RL 2 := ⟨⟨by decide +kernel, by decide +kernel, by decide +kernel, by decide +kernel⟩, cx_L_addAll, in_L, st_L_addAll⟩
theorem mk_X9_addAll : MKv yX9_addAll cX9_addAll 2 (some .int) RX9 0 := ⟨⟨by decide +kernel, by decide +kernel, by decide +kernel, by decide +kernel⟩, co_X9_addAll, in_X9, im_X9_addAll, se_X9_addAll⟩
theorem mk_X6_isPartComplete : MKv yX6_isPartComplete cX6_isPartComplete 1 (some .boolean) RX6 0 := ⟨⟨by decide +kernel, by decide +kernel, by decide +kernel, by decide +kernel⟩, co_X6_isPartComplete, in_X6, im_X6_isPartComplete, se_X6_isPartComplete⟩
theorem mk_X8_addPartsTo : MKv yX8_addPartsTo cX8_addPartsTo 6 none RX8 1 := ⟨⟨by decide +kernel, by decide +kernel, by decide +kernel, by decide +kernel⟩, co_X8_addPartsTo, in_X8, im_X8_addPartsTo, se_X8_addPartsTo⟩
theorem mk_X10_addAll : MKv yX10_addAll cX10_addAll 5 (some .int) RX10 0 := ⟨⟨by decide +kernel, by decide +kernel, by decide +kernel, by decide +kernel⟩, co_X10_addAll, in_X10, im_X10_addAll, se_X10_addAll⟩
theorem mk_L_undo : MKx yL_undo cL_undo 3 (some .int) [(0, 8, 11, 15)] RL 2 := ⟨⟨by decide +kernel, by decide +kernel, by decide +kernel, by decide +kernel⟩, cx_L_undo, in_L, st_L_undo⟩
theorem mk_X9_undo : MKv yX9_undo cX9_undo 1 (some .int) RX9 0 := ⟨⟨by decide +kernel, by decide +kernel, by decide +kernel, by decide +kernel⟩, co_X9_undo, in_X9, im_X9_undo, se_X9_undo⟩
theorem mk_X2_restore : MKv yX2_restore cX2_restore 4 none RX2 1 := ⟨⟨by decide +kernel, by decide +kernel, by decide +kernel, by decide +kernel⟩, co_X2_restore, in_X2, im_X2_restore, se_X2_restore⟩
theorem mk_X10_undo : MKv yX10_undo cX10_undo 2 (some .int) RX10 0 := ⟨⟨by decide +kernel, by decide +kernel, by decide +kernel, by decide +kernel⟩, co_X10_undo, in_X10, im_X10_undo, se_X10_undo⟩
theorem mk_L_part : MKx yL_part cL_part 5 (some .int) [(0, 10, 13, 20), (0, 10, 17, 13)] RL 4 := ⟨⟨by decide +kernel, by decide +kernel, by decide +kernel, by decide +kernel⟩, cx_L_part, in_L, st_L_part⟩
theorem mk_X9_part : MKv yX9_part cX9_part 3 (some .int) RX9 2 := ⟨⟨by decide +kernel, by decide +kernel, by decide +kernel, by decide +kernel⟩, co_X9_part, in_X9, im_X9_part, se_X9_part⟩
theorem mk_X7_leastLoadOf : MKv yX7_leastLoadOf cX7_leastLoadOf 3 (some .int) RX7 1 := ⟨⟨by decide +kernel, by decide +kernel, by decide +kernel, by decide +kernel⟩, co_X7_leastLoadOf, in_X7, im_X7_leastLoadOf, se_X7_leastLoadOf⟩
theorem mk_X7_greatestLoadOf : MKv yX7_greatestLoadOf cX7_greatestLoadOf 3 (some .int) RX7 1 := ⟨⟨by decide +kernel, by decide +kernel, by decide +kernel, by decide +kernel⟩, co_X7_greatestLoadOf, in_X7, im_X7_greatestLoadOf, se_X7_greatestLoadOf⟩
theorem mk_X7_momentOf : MKv yX7_momentOf cX7_momentOf 4 (some .int) RX7 1 := ⟨⟨by decide +kernel, by decide +kernel, by decide +kernel, by decide +kernel⟩, co_X7_momentOf, in_X7, im_X7_momentOf, se_X7_momentOf⟩
theorem mk_X5_latestLoadOf : MKv yX5_latestLoadOf cX5_latestLoadOf 3 (some .int) RX5 1 := ⟨⟨by decide +kernel, by decide +kernel, by decide +kernel, by decide +kernel⟩, co_X5_latestLoadOf, in_X5, im_X5_latestLoadOf, se_X5_latestLoadOf⟩
theorem mk_X10_part : MKv yX10_part cX10_part 3 (some .int) RX10 2 := ⟨⟨by decide +kernel, by decide +kernel, by decide +kernel, by decide +kernel⟩, co_X10_part, in_X10, im_X10_part, se_X10_part⟩
theorem mk_X10_partNow : MKv yX10_partNow cX10_partNow 3 (some .int) RX10 2 := ⟨⟨by decide +kernel, by decide +kernel, by decide +kernel, by decide +kernel⟩, co_X10_partNow, in_X10, im_X10_partNow, se_X10_partNow⟩
theorem mk_X10_leastLoad : MKv yX10_leastLoad cX10_leastLoad 3 (some .int) RX10 1 := ⟨⟨by decide +kernel, by decide +kernel, by decide +kernel, by decide +kernel⟩, co_X10_leastLoad, in_X10, im_X10_leastLoad, se_X10_leastLoad⟩
theorem mk_X10_greatestLoad : MKv yX10_greatestLoad cX10_greatestLoad 3 (some .int) RX10 1 := ⟨⟨by decide +kernel, by decide +kernel, by decide +kernel, by decide +kernel⟩, co_X10_greatestLoad, in_X10, im_X10_greatestLoad, se_X10_greatestLoad⟩
theorem mk_X10_loadSum : MKv yX10_loadSum cX10_loadSum 5 (some .int) RX10 2 := ⟨⟨by decide +kernel, by decide +kernel, by decide +kernel, by decide +kernel⟩, co_X10_loadSum, in_X10, im_X10_loadSum, se_X10_loadSum⟩
theorem mk_L_weight : MKx yL_weight cL_weight 6 (some .int) [(0, 12, 15, 20)] RL 5 := ⟨⟨by decide +kernel, by decide +kernel, by decide +kernel, by decide +kernel⟩, cx_L_weight, in_L, st_L_weight⟩
theorem mk_X9_weight : MKv yX9_weight cX9_weight 4 (some .int) RX9 3 := ⟨⟨by decide +kernel, by decide +kernel, by decide +kernel, by decide +kernel⟩, co_X9_weight, in_X9, im_X9_weight, se_X9_weight⟩
theorem mk_X10_weight : MKv yX10_weight cX10_weight 4 (some .int) RX10 3 := ⟨⟨by decide +kernel, by decide +kernel, by decide +kernel, by decide +kernel⟩, co_X10_weight, in_X10, im_X10_weight, se_X10_weight⟩
theorem mk_L_ways : MKx yL_ways cL_ways 5 (some .int) [(0, 9, 12, 13)] RL 4 := ⟨⟨by decide +kernel, by decide +kernel, by decide +kernel, by decide +kernel⟩, cx_L_ways, in_L, st_L_ways⟩
theorem mk_X9_ways : MKv yX9_ways cX9_ways 3 (some .long) RX9 2 := ⟨⟨by decide +kernel, by decide +kernel, by decide +kernel, by decide +kernel⟩, co_X9_ways, in_X9, im_X9_ways, se_X9_ways⟩
theorem mk_X1_fill : MKv yX1_fill cX1_fill 4 none RX1 2 := ⟨⟨by decide +kernel, by decide +kernel, by decide +kernel, by decide +kernel⟩, co_X1_fill, in_X1, im_X1_fill, se_X1_fill⟩
theorem mk_X1_addPartOf : MKv yX1_addPartOf cX1_addPartOf 7 none RX1 2 := ⟨⟨by decide +kernel, by decide +kernel, by decide +kernel, by decide +kernel⟩, co_X1_addPartOf, in_X1, im_X1_addPartOf, se_X1_addPartOf⟩
theorem mk_X1_waysOf : MKv yX1_waysOf cX1_waysOf 2 (some .long) RX1 1 := ⟨⟨by decide +kernel, by decide +kernel, by decide +kernel, by decide +kernel⟩, co_X1_waysOf, in_X1, im_X1_waysOf, se_X1_waysOf⟩
theorem mk_X1_waysFrom : MKv yX1_waysFrom cX1_waysFrom 5 (some .long) RX1 1 := ⟨⟨by decide +kernel, by decide +kernel, by decide +kernel, by decide +kernel⟩, co_X1_waysFrom, in_X1, im_X1_waysFrom, se_X1_waysFrom⟩
theorem mk_X10_ways : MKv yX10_ways cX10_ways 3 (some .long) RX10 2 := ⟨⟨by decide +kernel, by decide +kernel, by decide +kernel, by decide +kernel⟩, co_X10_ways, in_X10, im_X10_ways, se_X10_ways⟩
theorem mk_X10_waysNow : MKv yX10_waysNow cX10_waysNow 3 (some .long) RX10 2 := ⟨⟨by decide +kernel, by decide +kernel, by decide +kernel, by decide +kernel⟩, co_X10_waysNow, in_X10, im_X10_waysNow, se_X10_waysNow⟩
theorem mk_X10_layWays : MKv yX10_layWays cX10_layWays 3 none RX10 1 := ⟨⟨by decide +kernel, by decide +kernel, by decide +kernel, by decide +kernel⟩, co_X10_layWays, in_X10, im_X10_layWays, se_X10_layWays⟩
theorem mk_X10_addPartWays : MKv yX10_addPartWays cX10_addPartWays 6 none RX10 1 := ⟨⟨by decide +kernel, by decide +kernel, by decide +kernel, by decide +kernel⟩, co_X10_addPartWays, in_X10, im_X10_addPartWays, se_X10_addPartWays⟩
theorem mk_X10_waysFrom : MKv yX10_waysFrom cX10_waysFrom 5 (some .long) RX10 1 := ⟨⟨by decide +kernel, by decide +kernel, by decide +kernel, by decide +kernel⟩, co_X10_waysFrom, in_X10, im_X10_waysFrom, se_X10_waysFrom⟩
theorem mk_L_likeliest : MKx yL_likeliest cL_likeliest 4 (some .int) [(0, 9, 12, 20)] RL 3 := ⟨⟨by decide +kernel, by decide +kernel, by decide +kernel, by decide +kernel⟩, cx_L_likeliest, in_L, st_L_likeliest⟩
theorem mk_X9_likeliest : MKv yX9_likeliest cX9_likeliest 2 (some .int) RX9 1 := ⟨⟨by decide +kernel, by decide +kernel, by decide +kernel, by decide +kernel⟩, co_X9_likeliest, in_X9, im_X9_likeliest, se_X9_likeliest⟩
theorem mk_X3_fill : MKv yX3_fill cX3_fill 4 none RX3 1 := ⟨⟨by decide +kernel, by decide +kernel, by decide +kernel, by decide +kernel⟩, co_X3_fill, in_X3, im_X3_fill, se_X3_fill⟩
theorem mk_X3_setMost : MKv yX3_setMost cX3_setMost 4 none RX3 3 := ⟨⟨by decide +kernel, by decide +kernel, by decide +kernel, by decide +kernel⟩, co_X3_setMost, in_X3, im_X3_setMost, se_X3_setMost⟩
theorem mk_X3_mostOfLoads : MKv yX3_mostOfLoads cX3_mostOfLoads 6 (some .int) RX3 3 := ⟨⟨by decide +kernel, by decide +kernel, by decide +kernel, by decide +kernel⟩, co_X3_mostOfLoads, in_X3, im_X3_mostOfLoads, se_X3_mostOfLoads⟩
theorem mk_X3_waysWith : MKv yX3_waysWith cX3_waysWith 5 (some .int) RX3 4 := ⟨⟨by decide +kernel, by decide +kernel, by decide +kernel, by decide +kernel⟩, co_X3_waysWith, in_X3, im_X3_waysWith, se_X3_waysWith⟩
theorem mk_X3_getMost : MKv yX3_getMost cX3_getMost 4 (some .int) RX3 2 := ⟨⟨by decide +kernel, by decide +kernel, by decide +kernel, by decide +kernel⟩, co_X3_getMost, in_X3, im_X3_getMost, se_X3_getMost⟩
theorem mk_X3_loadOf : MKv yX3_loadOf cX3_loadOf 5 (some .int) RX3 2 := ⟨⟨by decide +kernel, by decide +kernel, by decide +kernel, by decide +kernel⟩, co_X3_loadOf, in_X3, im_X3_loadOf, se_X3_loadOf⟩
theorem mk_X3_waysFor : MKv yX3_waysFor cX3_waysFor 2 (some .int) RX3 1 := ⟨⟨by decide +kernel, by decide +kernel, by decide +kernel, by decide +kernel⟩, co_X3_waysFor, in_X3, im_X3_waysFor, se_X3_waysFor⟩
theorem mk_X3_firstLoad : MKv yX3_firstLoad cX3_firstLoad 5 (some .int) RX3 3 := ⟨⟨by decide +kernel, by decide +kernel, by decide +kernel, by decide +kernel⟩, co_X3_firstLoad, in_X3, im_X3_firstLoad, se_X3_firstLoad⟩
theorem mk_X10_likeliest : MKv yX10_likeliest cX10_likeliest 2 (some .int) RX10 1 := ⟨⟨by decide +kernel, by decide +kernel, by decide +kernel, by decide +kernel⟩, co_X10_likeliest, in_X10, im_X10_likeliest, se_X10_likeliest⟩
theorem mk_X10_likeliestLoad : MKv yX10_likeliestLoad cX10_likeliestLoad 5 (some .int) RX10 1 := ⟨⟨by decide +kernel, by decide +kernel, by decide +kernel, by decide +kernel⟩, co_X10_likeliestLoad, in_X10, im_X10_likeliestLoad, se_X10_likeliestLoad⟩
theorem mk_X10_likeliestWays : MKv yX10_likeliestWays cX10_likeliestWays 1 (some .int) RX10 0 := ⟨⟨by decide +kernel, by decide +kernel, by decide +kernel, by decide +kernel⟩, co_X10_likeliestWays, in_X10, im_X10_likeliestWays, se_X10_likeliestWays⟩
theorem mk_X10_layMost : MKv yX10_layMost cX10_layMost 6 none RX10 0 := ⟨⟨by decide +kernel, by decide +kernel, by decide +kernel, by decide +kernel⟩, co_X10_layMost, in_X10, im_X10_layMost, se_X10_layMost⟩
theorem mk_X10_mostBy : MKv yX10_mostBy cX10_mostBy 5 (some .int) RX10 3 := ⟨⟨by decide +kernel, by decide +kernel, by decide +kernel, by decide +kernel⟩, co_X10_mostBy, in_X10, im_X10_mostBy, se_X10_mostBy⟩
theorem mk_L_count : MKx yL_count cL_count 4 (some .int) [(0, 9, 12, 13)] RL 3 := ⟨⟨by decide +kernel, by decide +kernel, by decide +kernel, by decide +kernel⟩, cx_L_count, in_L, st_L_count⟩
theorem mk_X9_count : MKv yX9_count cX9_count 2 (some .int) RX9 1 := ⟨⟨by decide +kernel, by decide +kernel, by decide +kernel, by decide +kernel⟩, co_X9_count, in_X9, im_X9_count, se_X9_count⟩
theorem mk_X4_leastSum : MKv yX4_leastSum cX4_leastSum 3 (some .int) RX4 0 := ⟨⟨by decide +kernel, by decide +kernel, by decide +kernel, by decide +kernel⟩, co_X4_leastSum, in_X4, im_X4_leastSum, se_X4_leastSum⟩
theorem mk_X4_greatestSum : MKv yX4_greatestSum cX4_greatestSum 3 (some .int) RX4 0 := ⟨⟨by decide +kernel, by decide +kernel, by decide +kernel, by decide +kernel⟩, co_X4_greatestSum, in_X4, im_X4_greatestSum, se_X4_greatestSum⟩
theorem mk_X10_count : MKv yX10_count cX10_count 2 (some .int) RX10 1 := ⟨⟨by decide +kernel, by decide +kernel, by decide +kernel, by decide +kernel⟩, co_X10_count, in_X10, im_X10_count, se_X10_count⟩
theorem mk_X10_counted : MKv yX10_counted cX10_counted 2 (some .int) RX10 1 := ⟨⟨by decide +kernel, by decide +kernel, by decide +kernel, by decide +kernel⟩, co_X10_counted, in_X10, im_X10_counted, se_X10_counted⟩
theorem mk_X10_endSum : MKv yX10_endSum cX10_endSum 5 (some .int) RX10 1 := ⟨⟨by decide +kernel, by decide +kernel, by decide +kernel, by decide +kernel⟩, co_X10_endSum, in_X10, im_X10_endSum, se_X10_endSum⟩
theorem mk_L_measure : MKx yL_measure cL_measure 4 (some .int) [(0, 8, 11, 13)] RL 3 := ⟨⟨by decide +kernel, by decide +kernel, by decide +kernel, by decide +kernel⟩, cx_L_measure, in_L, st_L_measure⟩
theorem mk_X9_measure : MKv yX9_measure cX9_measure 3 (some .double) RX9 1 := ⟨⟨by decide +kernel, by decide +kernel, by decide +kernel, by decide +kernel⟩, co_X9_measure, in_X9, im_X9_measure, se_X9_measure⟩
theorem mk_X9_oddsFor : MKv yX9_oddsFor cX9_oddsFor 3 (some .double) RX9 2 := ⟨⟨by decide +kernel, by decide +kernel, by decide +kernel, by decide +kernel⟩, co_X9_oddsFor, in_X9, im_X9_oddsFor, se_X9_oddsFor⟩
theorem mk_X1_oddsFrom : MKv yX1_oddsFrom cX1_oddsFrom 4 (some .double) RX1 1 := ⟨⟨by decide +kernel, by decide +kernel, by decide +kernel, by decide +kernel⟩, co_X1_oddsFrom, in_X1, im_X1_oddsFrom, se_X1_oddsFrom⟩
theorem mk_X5_shareOf : MKv yX5_shareOf cX5_shareOf 3 (some .double) RX5 1 := ⟨⟨by decide +kernel, by decide +kernel, by decide +kernel, by decide +kernel⟩, co_X5_shareOf, in_X5, im_X5_shareOf, se_X5_shareOf⟩
theorem mk_X5_effectiveNumber : MKv yX5_effectiveNumber cX5_effectiveNumber 1 (some .double) RX5 0 := ⟨⟨by decide +kernel, by decide +kernel, by decide +kernel, by decide +kernel⟩, co_X5_effectiveNumber, in_X5, im_X5_effectiveNumber, se_X5_effectiveNumber⟩
theorem mk_X10_measure : MKv yX10_measure cX10_measure 2 (some .double) RX10 1 := ⟨⟨by decide +kernel, by decide +kernel, by decide +kernel, by decide +kernel⟩, co_X10_measure, in_X10, im_X10_measure, se_X10_measure⟩
theorem mk_X10_measured : MKv yX10_measured cX10_measured 2 (some .double) RX10 1 := ⟨⟨by decide +kernel, by decide +kernel, by decide +kernel, by decide +kernel⟩, co_X10_measured, in_X10, im_X10_measured, se_X10_measured⟩
theorem mk_X10_oddsBy : MKv yX10_oddsBy cX10_oddsBy 3 (some .double) RX10 2 := ⟨⟨by decide +kernel, by decide +kernel, by decide +kernel, by decide +kernel⟩, co_X10_oddsBy, in_X10, im_X10_oddsBy, se_X10_oddsBy⟩
theorem mk_X10_bySamples : MKv yX10_bySamples cX10_bySamples 3 (some .double) RX10 1 := ⟨⟨by decide +kernel, by decide +kernel, by decide +kernel, by decide +kernel⟩, co_X10_bySamples, in_X10, im_X10_bySamples, se_X10_bySamples⟩
theorem mk_X10_effective : MKv yX10_effective cX10_effective 1 (some .double) RX10 0 := ⟨⟨by decide +kernel, by decide +kernel, by decide +kernel, by decide +kernel⟩, co_X10_effective, in_X10, im_X10_effective, se_X10_effective⟩
theorem mk_L_ifLimit : MKx yL_ifLimit cL_ifLimit 4 (some .int) [(0, 8, 11, 13)] RL 3 := ⟨⟨by decide +kernel, by decide +kernel, by decide +kernel, by decide +kernel⟩, cx_L_ifLimit, in_L, st_L_ifLimit⟩
theorem mk_X9_ifLimit : MKv yX9_ifLimit cX9_ifLimit 2 (some .double) RX9 1 := ⟨⟨by decide +kernel, by decide +kernel, by decide +kernel, by decide +kernel⟩, co_X9_ifLimit, in_X9, im_X9_ifLimit, se_X9_ifLimit⟩
theorem mk_X10_ifLimit : MKv yX10_ifLimit cX10_ifLimit 2 (some .double) RX10 1 := ⟨⟨by decide +kernel, by decide +kernel, by decide +kernel, by decide +kernel⟩, co_X10_ifLimit, in_X10, im_X10_ifLimit, se_X10_ifLimit⟩
theorem mk_L_limitFor : MKx yL_limitFor cL_limitFor 4 (some .int) [(0, 9, 12, 13)] RL 3 := ⟨⟨by decide +kernel, by decide +kernel, by decide +kernel, by decide +kernel⟩, cx_L_limitFor, in_L, st_L_limitFor⟩
theorem mk_X9_limitFor : MKv yX9_limitFor cX9_limitFor 5 (some .int) RX9 1 := ⟨⟨by decide +kernel, by decide +kernel, by decide +kernel, by decide +kernel⟩, co_X9_limitFor, in_X9, im_X9_limitFor, se_X9_limitFor⟩
theorem mk_X10_limitFor : MKv yX10_limitFor cX10_limitFor 2 (some .int) RX10 1 := ⟨⟨by decide +kernel, by decide +kernel, by decide +kernel, by decide +kernel⟩, co_X10_limitFor, in_X10, im_X10_limitFor, se_X10_limitFor⟩
theorem mk_X10_limitNow : MKv yX10_limitNow cX10_limitNow 3 (some .int) RX10 1 := ⟨⟨by decide +kernel, by decide +kernel, by decide +kernel, by decide +kernel⟩, co_X10_limitNow, in_X10, im_X10_limitNow, se_X10_limitNow⟩
theorem mk_X9_greatest : MKv yX9_greatest cX9_greatest 2 (some .double) RX9 1 := ⟨⟨by decide +kernel, by decide +kernel, by decide +kernel, by decide +kernel⟩, co_X9_greatest, in_X9, im_X9_greatest, se_X9_greatest⟩
theorem mk_X0_fill : MKv yX0_fill cX0_fill 3 none RX0 1 := ⟨⟨by decide +kernel, by decide +kernel, by decide +kernel, by decide +kernel⟩, co_X0_fill, in_X0, im_X0_fill, se_X0_fill⟩
theorem mk_X0_addPartOf : MKv yX0_addPartOf cX0_addPartOf 9 none RX0 2 := ⟨⟨by decide +kernel, by decide +kernel, by decide +kernel, by decide +kernel⟩, co_X0_addPartOf, in_X0, im_X0_addPartOf, se_X0_addPartOf⟩
theorem mk_X0_correctionOf : MKv yX0_correctionOf cX0_correctionOf 2 (some .double) RX0 1 := ⟨⟨by decide +kernel, by decide +kernel, by decide +kernel, by decide +kernel⟩, co_X0_correctionOf, in_X0, im_X0_correctionOf, se_X0_correctionOf⟩
theorem mk_X0_greatestFrom : MKv yX0_greatestFrom cX0_greatestFrom 5 (some .double) RX0 1 := ⟨⟨by decide +kernel, by decide +kernel, by decide +kernel, by decide +kernel⟩, co_X0_greatestFrom, in_X0, im_X0_greatestFrom, se_X0_greatestFrom⟩
theorem mk_X10_greatest : MKv yX10_greatest cX10_greatest 2 (some .double) RX10 1 := ⟨⟨by decide +kernel, by decide +kernel, by decide +kernel, by decide +kernel⟩, co_X10_greatest, in_X10, im_X10_greatest, se_X10_greatest⟩
theorem mk_X10_greatestNow : MKv yX10_greatestNow cX10_greatestNow 6 (some .double) RX10 1 := ⟨⟨by decide +kernel, by decide +kernel, by decide +kernel, by decide +kernel⟩, co_X10_greatestNow, in_X10, im_X10_greatestNow, se_X10_greatestNow⟩
theorem mk_X10_correctionOf : MKv yX10_correctionOf cX10_correctionOf 6 (some .double) RX10 1 := ⟨⟨by decide +kernel, by decide +kernel, by decide +kernel, by decide +kernel⟩, co_X10_correctionOf, in_X10, im_X10_correctionOf, se_X10_correctionOf⟩
theorem mk_X10_goesOn : MKv yX10_goesOn cX10_goesOn 2 (some .boolean) RX10 0 := ⟨⟨by decide +kernel, by decide +kernel, by decide +kernel, by decide +kernel⟩, co_X10_goesOn, in_X10, im_X10_goesOn, se_X10_goesOn⟩
theorem mk_X9_slightest : MKv yX9_slightest cX9_slightest 7 (some .int) RX9 0 := ⟨⟨by decide +kernel, by decide +kernel, by decide +kernel, by decide +kernel⟩, co_X9_slightest, in_X9, im_X9_slightest, se_X9_slightest⟩
theorem mk_X10_slightest : MKv yX10_slightest cX10_slightest 1 (some .int) RX10 0 := ⟨⟨by decide +kernel, by decide +kernel, by decide +kernel, by decide +kernel⟩, co_X10_slightest, in_X10, im_X10_slightest, se_X10_slightest⟩
theorem mk_X10_slightestNow : MKv yX10_slightestNow cX10_slightestNow 8 (some .int) RX10 0 := ⟨⟨by decide +kernel, by decide +kernel, by decide +kernel, by decide +kernel⟩, co_X10_slightestNow, in_X10, im_X10_slightestNow, se_X10_slightestNow⟩
theorem mk_X9_digest : MKv yX9_digest cX9_digest 4 (some .long) RX9 0 := ⟨⟨by decide +kernel, by decide +kernel, by decide +kernel, by decide +kernel⟩, co_X9_digest, in_X9, im_X9_digest, se_X9_digest⟩
theorem mk_X9_hashWith : MKs yX9_hashWith cX9_hashWith 4 (some .long) RX9 2 := ⟨⟨by decide +kernel, by decide +kernel, by decide +kernel, by decide +kernel⟩, co_X9_hashWith, in_X9, st_X9_hashWith⟩
theorem mk_X9_hashWithPart : MKv yX9_hashWithPart cX9_hashWithPart 7 (some .long) RX9 2 := ⟨⟨by decide +kernel, by decide +kernel, by decide +kernel, by decide +kernel⟩, co_X9_hashWithPart, in_X9, im_X9_hashWithPart, se_X9_hashWithPart⟩
theorem mk_X9_bitsOf : MKs yX9_bitsOf cX9_bitsOf 9 (some .long) RX9 1 := ⟨⟨by decide +kernel, by decide +kernel, by decide +kernel, by decide +kernel⟩, co_X9_bitsOf, in_X9, st_X9_bitsOf⟩
theorem mk_X10_digest : MKv yX10_digest cX10_digest 2 (some .long) RX10 0 := ⟨⟨by decide +kernel, by decide +kernel, by decide +kernel, by decide +kernel⟩, co_X10_digest, in_X10, im_X10_digest, se_X10_digest⟩
theorem mk_X10_mix : MKv yX10_mix cX10_mix 3 none RX10 1 := ⟨⟨by decide +kernel, by decide +kernel, by decide +kernel, by decide +kernel⟩, co_X10_mix, in_X10, im_X10_mix, se_X10_mix⟩
theorem mk_X10_mixPart : MKv yX10_mixPart cX10_mixPart 3 none RX10 1 := ⟨⟨by decide +kernel, by decide +kernel, by decide +kernel, by decide +kernel⟩, co_X10_mixPart, in_X10, im_X10_mixPart, se_X10_mixPart⟩
theorem mk_Jxe99ae_doubleToLongBits_ccdee : MKs yJxe99ae_doubleToLongBits_ccdee cJxe99ae_doubleToLongBits_ccdee 2 (some .long) RJxe99ae 1 := ⟨⟨by decide +kernel, by decide +kernel, by decide +kernel, by decide +kernel⟩, co_Jxe99ae_doubleToLongBits_ccdee, in_Jxe99ae, st_Jxe99ae_doubleToLongBits_ccdee⟩
theorem mk_Jxe99ae_isNaN_b9ae7 : MKs yJxe99ae_isNaN_b9ae7 cJxe99ae_isNaN_b9ae7 2 (some .boolean) RJxe99ae 1 := ⟨⟨by decide +kernel, by decide +kernel, by decide +kernel, by decide +kernel⟩, co_Jxe99ae_isNaN_b9ae7, in_Jxe99ae, st_Jxe99ae_isNaN_b9ae7⟩
end
section
/-! THE LAYER: a method's body at work over a world (a list of cells), in few words. Bd: the body's machine (p, e, R, s, m, args, below, meth, c, Q, A); GP: what is fixed for the whole claim (launch, class numbers, array classes, the first new address) -/
def Bd : Type := Program × Env × Room × State × MethodId × Array Value × List Frame × Method × Code × (State → Prop) × (Nat → Prop)
def Bd.p (B : Bd) : Program := B.1
def Bd.e (B : Bd) : Env := B.2.1
def Bd.R (B : Bd) : Room := B.2.2.1
def Bd.s (B : Bd) : State := B.2.2.2.1
def Bd.m (B : Bd) : MethodId := B.2.2.2.2.1
def Bd.args (B : Bd) : Array Value := B.2.2.2.2.2.1
def Bd.below (B : Bd) : List Frame := B.2.2.2.2.2.2.1
def Bd.meth (B : Bd) : Method := B.2.2.2.2.2.2.2.1
def Bd.c (B : Bd) : Code := B.2.2.2.2.2.2.2.2.1
def Bd.Q (B : Bd) : State → Prop := B.2.2.2.2.2.2.2.2.2.1
def Bd.A (B : Bd) : Nat → Prop := B.2.2.2.2.2.2.2.2.2.2
def GP : Type := Launch × va_G × ClassId × ClassId × ClassId × ClassId × Nat
def GP.l (G : GP) : Launch := G.1
def GP.D (G : GP) : va_G := G.2.1
def GP.cD (G : GP) : ClassId := G.2.2.1
def GP.cI (G : GP) : ClassId := G.2.2.2.1
def GP.cJ (G : GP) : ClassId := G.2.2.2.2.1
def GP.cP (G : GP) : ClassId := G.2.2.2.2.2.1
def GP.b0 (G : GP) : Nat := G.2.2.2.2.2.2
def GP.tys (G : GP) : List (ClassId × FieldType) := [(G.cD, .double), (G.cI, .int), (G.cJ, .long), (G.cP, .object RX4)]
def GP.A (G : GP) : Nat → Prop := fun q => G.b0 ≤ q
-- cells
abbrev aI (G : GP) (n : Nat) (f : Nat → Int32) : va_E := .inl (G.cI, n, .inl f)
abbrev aJ (G : GP) (n : Nat) (f : Nat → Int64) : va_E := .inl (G.cJ, n, .inr (.inl f))
abbrev aD (G : GP) (n : Nat) (f : Nat → UInt64) : va_E := .inl (G.cD, n, .inr (.inr (.inr (.inl f))))
abbrev aP (G : GP) (n : Nat) (f : Nat → Option Nat) : va_E := .inl (G.cP, n, .inr (.inr (.inr (.inr f))))
abbrev ob (ci : Nat) (fs : List Value) : va_E := .inr (ci, fs)
-- static facts of a method: name, code, locals, return type, class, level
def MS : Type := MethodName × ByteArray × Nat × Option FieldType × String × Nat
def MS.y (σ : MS) : MethodName := σ.1
def MS.cc (σ : MS) : ByteArray := σ.2.1
def MS.nL (σ : MS) : Nat := σ.2.2.1
def MS.ret (σ : MS) : Option FieldType := σ.2.2.2.1
def MS.own (σ : MS) : String := σ.2.2.2.2.1
def MS.lv (σ : MS) : Nat := σ.2.2.2.2.2
def MS.rm (σ : MS) (mc ms : Nat) : Room := { frames := σ.lv, cells := mc, slots := ms, locals := 36 * σ.lv }
-- words that the tables hold but that are carried by laws of their own
def gwN : List Cond := [.methodLinkNest RX9 11 yX4_init "RareFaults", .methodLinkNest RX4 11 yX7_init "RareFaults", .methodLinkNest RX4 23 yX5_init "RareFaults", .methodLinkNest RX9 18 yX2_init "RareFaults", .methodLinkNest RX9 25 yX8_init "RareFaults", .methodLinkNest RX9 32 yX1_init "RareFaults", .methodLinkNest RX9 39 yX3_init "RareFaults", .methodLinkNest RX9 46 yX0_init "RareFaults", .methodLinkNest RX2 24 yX4_init "RareFaults", .methodLinkNest RX9 167 yX6_init "RareFaults"]
def xIAE : String := "java/lang/IllegalArgumentException"
def xISE : String := "java/lang/IllegalStateException"
def xIOB : String := "java/lang/IndexOutOfBoundsException"
def gwS : List (Nat × String) := [(53, "greatest is out of range"), (64, "there are 6 parts"), (106, "all weights of the part would be 0"), (111, "the weight of this load is 0"), (131, "seed is below 0"), (145, "there would be more than 9999 samples"), (159, "the buffer has 60 characters"), (176, "the buffer is not complete parts as a text"), (179, "there would be more than 6 parts"), (185, "there is no saved state"), (320, "there is no such part"), (323, "there is no such load"), (325, "a number is out of range")]
def gwX : List (String × String) := [(xIAE, xISE), (xIAE, xIOB), (xISE, xIAE), (xISE, xIOB), (xIOB, xIAE), (xIOB, xISE)]
/-- what every contract takes as given of the machine -/
def EnvOk (G : GP) (U : State) (H : Heap) : Prop :=
  va_K G.D vwCl G.tys U ∧ (∀ w ∈ gwN, va_Nw w U) ∧ (∀ E ∈ [xIAE, xISE, xIOB], va_Nw (.castable E E) U) ∧ (∀ q ∈ gwX, va_Nc q.1 q.2 U) ∧ (∀ q ∈ gwS, ∃ a : Nat, vk_R RX9 q.1 q.2 a U) ∧
  vx_Zq Bundle.tN "UNASSIGNED_STACK" Bundle.steD G.A U H ∧ vx_Zq Bundle.tN "SUPPRESSED_SENTINEL" Bundle.listD G.A U H ∧ va_AO RX4 U
theorem gwN_form : ∀ w ∈ gwN, ∃ (a : String) (i : Nat) (x : MethodName) (h : String), w = .methodLinkNest a i x h := by
  intro w h
  simp only [gwN, List.mem_cons, List.not_mem_nil, or_false] at h
  rcases h with rfl | rfl | rfl | rfl | rfl | rfl | rfl | rfl | rfl | rfl <;> exact ⟨_, _, _, _, rfl⟩
theorem EnvOk.warm {G : GP} {s U : State} {H H1 : Heap} (hW : s.WarmedH U.vm) (hq : ∀ a : Nat, a < H.size → ¬ G.A a → H1[a]? = H[a]?) (h : EnvOk G s H) : EnvOk G U H1 := by
  obtain ⟨h1, h2, h3, h4, h5, h6, h7, h8⟩ := h
  refine ⟨va_K.moved hW.alike h1, ?_, fun E hE => va_Nw.warmC hW (h3 E hE), fun q hQ => va_Nc.moved hW.alike (h4 q hQ), fun q hQ => ?_, vx_Zq.kept (vx_Zq.moved hW.alike h6) hq, vx_Zq.kept (vx_Zq.moved hW.alike h7) hq, va_AO.moved hW.alike h8⟩
  · intro w hw
    obtain ⟨a, i, x, h, rfl⟩ := gwN_form w hw
    exact va_Nw.warmM hW (h2 _ hw)
  · obtain ⟨a, ha⟩ := h5 q hQ
    exact ⟨a, vk_R.warm hW ha⟩
theorem EnvOk.same {G : GP} {s U : State} (hv : U.vm = s.vm) (hh : U.heap = s.heap) (h : EnvOk G s s.heap) : EnvOk G U U.heap := by
  rw [hh]
  obtain ⟨h1, h2, h3, h4, h5, h6, h7, h8⟩ := h
  have ha : s.vm.Alike U.vm := by rw [hv]; exact Vm.Alike.refl _
  refine ⟨va_K.moved ha h1, ?_, fun E hE => va_Nw.same rfl hv.symm (h3 E hE), fun q hQ => va_Nc.moved ha (h4 q hQ), fun q hQ => ?_, vx_Zq.moved ha h6, vx_Zq.moved ha h7, va_AO.moved ha h8⟩
  · intro w hw
    obtain ⟨a, i, x, h, rfl⟩ := gwN_form w hw
    exact va_Nw.same rfl hv.symm (h2 _ hw)
  · obtain ⟨a, ha⟩ := h5 q hQ
    exact ⟨a, vk_R.same hv ha⟩
/-- the body's machine is in order -/
def Bok (G : GP) (σ : MS) (B : Bd) : Prop :=
  B.p.tables.exec = Jvm.exec ∧ B.c.code = σ.cc ∧ B.c.maxLocals = σ.nL ∧ B.s.vm.findClass σ.own = some B.m.cls ∧ (∀ w ∈ gw, w.before B.args B.s = true) ∧ EnvOk G B.s B.s.heap ∧ (∀ q, B.s.heap.size ≤ q → B.A q) ∧ (∀ q, B.A q → G.A q) ∧ B.meth.locks = false ∧ B.meth.sig.returnType = σ.ret ∧ G.b0 ≤ B.s.heap.size
/-- from here on the run comes to its end with Q: the locals L, the operands st, the world ws, k cells of n slots made -/
def aW (G : GP) (σ : MS) (B : Bd) (pc : Nat) (L : List (Nat × Value)) (st : List Value) (ws : va_W) (k n : Nat) : Prop :=
  ∀ (H : Heap) (locs : List Loc) (ls : Array Slot), va_P G.D vwCl ws H → va_D B.A ws → va_S B.A B.s.heap H locs → lv_has ls σ.nL L →
    W B.p G.l B.e B.R B.s B.m B.args B.below B.meth B.c H locs k n B.Q (F0 B.m pc ls st)
-- contracts
def AKeep (ws ws' : va_W) : Prop := (ws'.map (·.1)).take ws.length = ws.map (·.1)
def AQ (G : GP) (A : Nat → Prop) (ws : va_W) (Qf : Option Value → va_W → Prop) : Array Value → State → Outcome → State → Prop := fun _ st oc t =>
  (∃ (v : Option Value) (ws' : va_W), oc = .returned v ∧ Qf v ws' ∧ AKeep ws ws' ∧ va_P G.D vwCl ws' t.heap ∧ va_D A ws') ∧ va_F A st t
def AXc (G : GP) (A : Nat → Prop) (ws : va_W) (Xf : String → va_W → Prop) : String → State → State → Prop := fun E st t =>
  ∃ ws' : va_W, Xf E ws' ∧ AKeep ws ws' ∧ va_P G.D vwCl ws' t.heap ∧ va_D A ws' ∧ va_F A st t
def APc (G : GP) (sz : Nat) (av : List Value) (ws : va_W) : Array Value → State → Prop := va_Pc av (fun U => U.heap.size = sz ∧ va_P G.D vwCl ws U.heap ∧ EnvOk G U U.heap ∧ va_D G.A ws)
/-- a method that returns: from the arguments av and the world ws, with Qf of its answer and its world; it makes at most mc cells of ms slots -/
def AM (G : GP) (σ : MS) (mc ms : Nat) (av : List Value) (ws : va_W) (Qf : Option Value → va_W → Prop) : Prop :=
  ∀ sz, G.b0 ≤ sz → Met G.l σ.y (Cond.code σ.y σ.cc σ.nL σ.ret :: gw) (σ.rm mc ms) (APc G sz av ws) (AQ G (va_A ws sz) ws Qf) mc ms (va_A ws sz)
/-- .. or throws, with Xf of the class and the world -/
def AMX (G : GP) (σ : MS) (mc ms : Nat) (av : List Value) (ws : va_W) (Qf : Option Value → va_W → Prop) (Xf : String → va_W → Prop) : Prop :=
  ∀ sz, G.b0 ≤ sz → vx_Met G.l σ.y (Cond.code σ.y σ.cc σ.nL σ.ret :: gw) (σ.rm mc ms) (APc G sz av ws) (AQ G (va_A ws sz) ws Qf) (AXc G (va_A ws sz) ws Xf) mc ms (va_A ws sz)
/-- it returns V and leaves the world ws' -/
abbrev AMd (G : GP) (σ : MS) (av : List Value) (ws : va_W) (V : Option Value) (ws' : va_W) : Prop := AM G σ 0 0 av ws (fun v w => v = V ∧ w = ws')
/-- what the end owes -/
def Bend (G : GP) (B : Bd) (ws0 : va_W) (mc ms : Nat) (Qf : Option Value → va_W → Prop) : Prop :=
  B.Q = MQ B.below (AQ G B.A ws0 Qf) B.args B.s mc ms B.A
def BendX (G : GP) (B : Bd) (ws0 : va_W) (mc ms : Nat) (Qf : Option Value → va_W → Prop) (Xf : String → va_W → Prop) : Prop :=
  B.Q = vx_MQ B.below (AQ G B.A ws0 Qf) (AXc G B.A ws0 Xf) B.args B.s mc ms B.A
theorem FrameBlind.APc {G : GP} {sz : Nat} {av : List Value} {ws : va_W} : FrameBlind (APc G sz av ws) := by
  intro a U g mk h
  obtain ⟨h1, h2, h3, h4, h5⟩ := h
  exact ⟨h1, h2, h3, EnvOk.same (s := U) rfl rfl h4, h5⟩
theorem gw_code {σ : MS} {s : State} {args : Array Value} (h : ∀ w ∈ (Cond.code σ.y σ.cc σ.nL σ.ret :: gw), w.before args s = true) : ∀ w ∈ gw, w.before args s = true := fun w hw => h w (List.mem_cons_of_mem _ hw)
/-- the room of a level -/
def Bd.room (B : Bd) (σ : MS) (mc ms : Nat) : Prop := B.R = σ.rm mc ms
theorem AM.of {G : GP} {σ : MS} {mc ms : Nat} {av : List Value} {ws : va_W} {Qf : Option Value → va_W → Prop} (hp : plainName σ.y.cls = true) (hc : σ.y.cls = σ.own) (hle : (lg_sl av).length ≤ σ.nL)
    (body : ∀ B : Bd, Bok G σ B → B.room σ mc ms → Bend G B ws mc ms Qf → (∃ ret, B.meth.name = σ.y.name ∧ ret = ()) → aW G σ B 0 (lv_args 0 av) [] ws 0 0) : AM G σ mc ms av ws Qf := by
  intro sz hb0
  refine Met.ofW (cc := σ.cc) (maxL := σ.nL) (ret := σ.ret) hp rfl ?_
  intro p e s m args below meth c s₁ X hml hv
  obtain ⟨rfl, hsz, hP, hE, hD0⟩ := hv
  have hts := gw_code (σ := σ) (atoms_spec (ws := Cond.code σ.y σ.cc σ.nL σ.ret :: gw) X.pre)
  have hown : s.vm.findClass σ.own = some m.cls := by rw [← hc]; exact findClass_of_methodNamed X.named
  have hD := hD0.self (sz := sz)
  have hl := lv_entry av (n := σ.nL) hle
  rw [lg_entry_eq]
  subst hsz
  exact body (p, e, σ.rm mc ms, s, m, av.toArray, below, meth, c, MQ below (AQ G (va_A ws s.heap.size) ws Qf) av.toArray s mc ms (va_A ws s.heap.size), va_A ws s.heap.size)
    ⟨X.exec, X.bytes, hml, hown, hts, hE, fun q h => Or.inr h, fun q h => by
      rcases h with ⟨k, e, h⟩ | h
      · exact hD0.2 k _ h
      · exact Nat.le_trans hb0 h, X.notSynchronized, X.returns, hb0⟩ rfl rfl ⟨(), (name_of_methodNamed X.named X.method).1, rfl⟩ s.heap [] _ hP hD va_S.rf hl
theorem AMX.of {G : GP} {σ : MS} {mc ms : Nat} {av : List Value} {ws : va_W} {Qf : Option Value → va_W → Prop} {Xf : String → va_W → Prop} (hp : plainName σ.y.cls = true) (hc : σ.y.cls = σ.own) (hle : (lg_sl av).length ≤ σ.nL)
    (body : ∀ B : Bd, Bok G σ B → B.room σ mc ms → BendX G B ws mc ms Qf Xf → (∀ x ∈ B.c.exceptionTable.toList, False) → aW G σ B 0 (lv_args 0 av) [] ws 0 0) : AMX G σ mc ms av ws Qf Xf := by
  intro sz hb0
  refine vx_ofW (cc := σ.cc) (maxL := σ.nL) (ret := σ.ret) hp rfl ?_
  intro p e s m args below meth c s₁ X hml hx hv
  obtain ⟨rfl, hsz, hP, hE, hD0⟩ := hv
  have hts := gw_code (σ := σ) (atoms_spec (ws := Cond.code σ.y σ.cc σ.nL σ.ret :: gw) X.pre)
  have hown : s.vm.findClass σ.own = some m.cls := by rw [← hc]; exact findClass_of_methodNamed X.named
  have hD := hD0.self (sz := sz)
  have hl := lv_entry av (n := σ.nL) hle
  rw [lg_entry_eq]
  subst hsz
  exact body (p, e, σ.rm mc ms, s, m, av.toArray, below, meth, c, vx_MQ below (AQ G (va_A ws s.heap.size) ws Qf) (AXc G (va_A ws s.heap.size) ws Xf) av.toArray s mc ms (va_A ws s.heap.size), va_A ws s.heap.size)
    ⟨X.exec, X.bytes, hml, hown, hts, hE, fun q h => Or.inr h, fun q h => by
      rcases h with ⟨k, e, h⟩ | h
      · exact hD0.2 k _ h
      · exact Nat.le_trans hb0 h, X.notSynchronized, X.returns, hb0⟩ rfl rfl hx s.heap [] _ hP hD va_S.rf hl
-- moving among the descriptions of one point
section Pts
variable {G : GP} {σ : MS} {B : Bd} {pc k n : Nat} {L : List (Nat × Value)} {st : List Value} {ws : va_W}
/-- other locals (fewer, by places), other words for operands and world -/
theorem aW_at {L' : List (Nat × Value)} {st' : List Value} {ws' : va_W} (ks : List Nat) (hL : lv_pick L ks = L') (hs : st = st') (hw : ws = ws') (kk : aW G σ B pc L' st' ws' k n) : aW G σ B pc L st ws k n := by
  subst hs; subst hw
  exact fun H locs ls hP hD hS hl => kk H locs ls hP hD hS (lv_sub hl ks hL)
theorem aW_w {ws' : va_W} (hw : ws = ws') (kk : aW G σ B pc L st ws' k n) : aW G σ B pc L st ws k n := hw ▸ kk
theorem aW_s {st' : List Value} (hw : st = st') (kk : aW G σ B pc L st' ws k n) : aW G σ B pc L st ws k n := hw ▸ kk
theorem aW_widen {k' n' : Nat} (h1 : k ≤ k') (h2 : n ≤ n') (kk : aW G σ B pc L st ws k' n') : aW G σ B pc L st ws k n := fun H locs ls hP hD hS hl => W.widen h1 h2 (kk H locs ls hP hD hS hl)
/-- a world part, by places -/
theorem aW_sub {ws' : va_W} (is : List Nat) (hn : va_nd is = true) (hs : is.map (fun i => ws[i]?) = ws'.map some) (hs2 : is.filterMap (fun i => ws[i]?) = ws') (kk : aW G σ B pc L st ws' k n) : aW G σ B pc L st ws k n :=
  fun H locs ls hP hD hS hl => kk H locs ls (hP.sub is hs2) (hD.sub is hn hs) hS hl
end Pts
end
section
section Ops
variable {G : GP} {σ : MS} {B : Bd} {pc k n : Nat} {L : List (Nat × Value)} {rest : List Value} {ws : va_W}
theorem Bok.hx (h : Bok G σ B) : B.p.tables.exec = Jvm.exec := h.1
theorem Bok.hb (h : Bok G σ B) : B.c.code = σ.cc := h.2.1
theorem Bok.hml (h : Bok G σ B) : B.c.maxLocals = σ.nL := h.2.2.1
theorem Bok.hown (h : Bok G σ B) : B.s.vm.findClass σ.own = some B.m.cls := h.2.2.2.1
theorem Bok.hts (h : Bok G σ B) : ∀ w ∈ gw, w.before B.args B.s = true := h.2.2.2.2.1
theorem Bok.hE (h : Bok G σ B) : EnvOk G B.s B.s.heap := h.2.2.2.2.2.1
theorem Bok.hK (h : Bok G σ B) : va_K G.D vwCl G.tys B.s := h.hE.1
theorem Bok.hA (h : Bok G σ B) : ∀ q, B.s.heap.size ≤ q → B.A q := h.2.2.2.2.2.2.1
theorem Bok.hAG (h : Bok G σ B) : ∀ q, B.A q → G.A q := h.2.2.2.2.2.2.2.1
theorem Bok.hlocks (h : Bok G σ B) : B.meth.locks = false := h.2.2.2.2.2.2.2.2.1
theorem Bok.hret (h : Bok G σ B) : B.meth.sig.returnType = σ.ret := h.2.2.2.2.2.2.2.2.2.1
theorem Bok.hb0 (h : Bok G σ B) : G.b0 ≤ B.s.heap.size := h.2.2.2.2.2.2.2.2.2.2
/-- the value in a place of the locals -/
def lget (L : List (Nat × Value)) (i : Nat) : Option Value := (L.find? (fun q => q.1 == i)).map (·.2)
theorem lget_mem {L : List (Nat × Value)} {i : Nat} {v : Value} (h : lget L i = some v) : (i, v) ∈ L := by
  unfold lget at h
  cases h1 : L.find? (fun q => q.1 == i) with
  | none => rw [h1] at h; cases h
  | some q =>
    rw [h1] at h
    have h2 := List.find?_some h1
    have h3 := List.mem_of_find?_eq_some h1
    obtain ⟨a, b⟩ := q
    simp only [beq_iff_eq] at h2
    subst h2
    cases h
    exact h3
theorem lget_at {ls : Array Slot} {nL : Nat} {L : List (Nat × Value)} {i : Nat} {v : Value} (h : lv_has ls nL L) (hv : lget L i = some v) : ls[i]? = some (.val v) := h.2.2 (i, v) (lget_mem hv)
/-- sorted by place -/
def lins (q : Nat × Value) : List (Nat × Value) → List (Nat × Value)
  | [] => [q]
  | a :: l => if q.1 < a.1 then q :: a :: l else a :: lins q l
theorem lins_mem {q a : Nat × Value} : ∀ {l : List (Nat × Value)}, a ∈ lins q l → a = q ∨ a ∈ l
  | [], h => by simp [lins] at h; exact Or.inl h
  | b :: l, h => by
    unfold lins at h
    split at h
    · rcases List.mem_cons.mp h with h | h
      · exact Or.inl h
      · exact Or.inr h
    · rcases List.mem_cons.mp h with h | h
      · exact Or.inr (h ▸ List.mem_cons_self)
      · rcases lins_mem h with h | h
        · exact Or.inl h
        · exact Or.inr (List.mem_cons_of_mem _ h)
def lput1 (L : List (Nat × Value)) (i : Nat) (v : Value) : List (Nat × Value) := lins (i, v) (L.filter (fun q => !(q.1 == i) && !(q.1 + 1 == i && q.2.category == 2)))
def lput2 (L : List (Nat × Value)) (i : Nat) (v : Value) : List (Nat × Value) := lins (i, v) (L.filter (fun q => !(q.1 == i) && (!(q.1 == i + 1) && !(q.1 + 1 == i && q.2.category == 2))))
theorem lput_has {ls : Array Slot} {nL : Nat} {q : Nat × Value} {L : List (Nat × Value)} (h : lv_has ls nL (q :: L)) : lv_has ls nL (lins q L) := ⟨h.1, h.2.1, fun a ha => h.2.2 a ((lins_mem ha).elim (fun e => e ▸ List.mem_cons_self) (fun e => List.mem_cons_of_mem _ e))⟩

theorem a_iconst (hB : Bok G σ B) {j : Int} {v : Int32} (hd : decode σ.cc pc = .ok (.iconst j, 1)) (hv : Int32.ofInt j = v)
    (kk : aW G σ B (pc + 1) L (.int v :: rest) ws k n) : aW G σ B pc L (rest) ws k n :=
  fun H locs ls hP hD hS hl => lv_iconst hB.hx hB.hb  hd hv (kk H locs ls hP hD hS hl)
theorem a_bipush (hB : Bok G σ B) {j : Int} {v : Int32} (hd : decode σ.cc pc = .ok (.bipush j, 2)) (hv : (Int8.ofInt j).toInt32 = v)
    (kk : aW G σ B (pc + 2) L (.int v :: rest) ws k n) : aW G σ B pc L (rest) ws k n :=
  fun H locs ls hP hD hS hl => lv_bipush hB.hx hB.hb  hd hv (kk H locs ls hP hD hS hl)
theorem a_sipush (hB : Bok G σ B) {j : Int} {v : Int32} (hd : decode σ.cc pc = .ok (.sipush j, 3)) (hv : (Int16.ofInt j).toInt32 = v)
    (kk : aW G σ B (pc + 3) L (.int v :: rest) ws k n) : aW G σ B pc L (rest) ws k n :=
  fun H locs ls hP hD hS hl => lv_sipush hB.hx hB.hb  hd hv (kk H locs ls hP hD hS hl)
theorem a_lconst (hB : Bok G σ B) {j : Fin 2} {v : Int64} (hd : decode σ.cc pc = .ok (.lconst j, 1)) (hv : Int64.ofNat (j : Nat) = v)
    (kk : aW G σ B (pc + 1) L (.long v :: rest) ws k n) : aW G σ B pc L (rest) ws k n :=
  fun H locs ls hP hD hS hl => lv_lconst hB.hx hB.hb  hd hv (kk H locs ls hP hD hS hl)
theorem a_dconst0 (hB : Bok G σ B) (hd : decode σ.cc pc = .ok (.dconst 0, 1)) 
    (kk : aW G σ B (pc + 1) L (.double FP.dconst0 :: rest) ws k n) : aW G σ B pc L (rest) ws k n :=
  fun H locs ls hP hD hS hl => lv_dconst0 hB.hx hB.hb  hd  (kk H locs ls hP hD hS hl)
theorem a_dconst1 (hB : Bok G σ B) (hd : decode σ.cc pc = .ok (.dconst 1, 1)) 
    (kk : aW G σ B (pc + 1) L (.double FP.dconst1 :: rest) ws k n) : aW G σ B pc L (rest) ws k n :=
  fun H locs ls hP hD hS hl => lv_dconst1 hB.hx hB.hb  hd  (kk H locs ls hP hD hS hl)
theorem a_iload (hB : Bok G σ B) {i : Nat} {x : Int32} (hd : decode σ.cc pc = .ok (.iload i, 2)) (hl0 : lget L i = some (.int x))
    (kk : aW G σ B (pc + 2) L (.int x :: rest) ws k n) : aW G σ B pc L (rest) ws k n :=
  fun H locs ls hP hD hS hl => lv_iload hB.hx hB.hb hd (lget_at hl hl0) (kk H locs ls hP hD hS hl)
theorem a_iload_n (hB : Bok G σ B) {j : Fin 4} {x : Int32} (hd : decode σ.cc pc = .ok (.iload_n j, 1)) (hl0 : lget L (j : Nat) = some (.int x))
    (kk : aW G σ B (pc + 1) L (.int x :: rest) ws k n) : aW G σ B pc L (rest) ws k n :=
  fun H locs ls hP hD hS hl => lv_iload_n hB.hx hB.hb hd rfl (lget_at hl hl0) (kk H locs ls hP hD hS hl)
theorem a_lload (hB : Bok G σ B) {i : Nat} {x : Int64} (hd : decode σ.cc pc = .ok (.lload i, 2)) (hl0 : lget L i = some (.long x))
    (kk : aW G σ B (pc + 2) L (.long x :: rest) ws k n) : aW G σ B pc L (rest) ws k n :=
  fun H locs ls hP hD hS hl => lv_lload hB.hx hB.hb hd (lget_at hl hl0) (kk H locs ls hP hD hS hl)
theorem a_lload_n (hB : Bok G σ B) {j : Fin 4} {x : Int64} (hd : decode σ.cc pc = .ok (.lload_n j, 1)) (hl0 : lget L (j : Nat) = some (.long x))
    (kk : aW G σ B (pc + 1) L (.long x :: rest) ws k n) : aW G σ B pc L (rest) ws k n :=
  fun H locs ls hP hD hS hl => lv_lload_n hB.hx hB.hb hd rfl (lget_at hl hl0) (kk H locs ls hP hD hS hl)
theorem a_dload (hB : Bok G σ B) {i : Nat} {x : UInt64} (hd : decode σ.cc pc = .ok (.dload i, 2)) (hl0 : lget L i = some (.double x))
    (kk : aW G σ B (pc + 2) L (.double x :: rest) ws k n) : aW G σ B pc L (rest) ws k n :=
  fun H locs ls hP hD hS hl => lv_dload hB.hx hB.hb hd (lget_at hl hl0) (kk H locs ls hP hD hS hl)
theorem a_dload_n (hB : Bok G σ B) {j : Fin 4} {x : UInt64} (hd : decode σ.cc pc = .ok (.dload_n j, 1)) (hl0 : lget L (j : Nat) = some (.double x))
    (kk : aW G σ B (pc + 1) L (.double x :: rest) ws k n) : aW G σ B pc L (rest) ws k n :=
  fun H locs ls hP hD hS hl => lv_dload_n hB.hx hB.hb hd rfl (lget_at hl hl0) (kk H locs ls hP hD hS hl)
theorem a_aload (hB : Bok G σ B) {i : Nat} {x : Nat} (hd : decode σ.cc pc = .ok (.aload i, 2)) (hl0 : lget L i = some (.ref x))
    (kk : aW G σ B (pc + 2) L (.ref x :: rest) ws k n) : aW G σ B pc L (rest) ws k n :=
  fun H locs ls hP hD hS hl => lv_aload hB.hx hB.hb hd (lget_at hl hl0) (kk H locs ls hP hD hS hl)
theorem a_aload_n (hB : Bok G σ B) {j : Fin 4} {x : Nat} (hd : decode σ.cc pc = .ok (.aload_n j, 1)) (hl0 : lget L (j : Nat) = some (.ref x))
    (kk : aW G σ B (pc + 1) L (.ref x :: rest) ws k n) : aW G σ B pc L (rest) ws k n :=
  fun H locs ls hP hD hS hl => lv_aload_n hB.hx hB.hb hd rfl (lget_at hl hl0) (kk H locs ls hP hD hS hl)
theorem a_aload_N (hB : Bok G σ B) {i : Nat} (hd : decode σ.cc pc = .ok (.aload i, 2)) (hl0 : lget L i = some .null)
    (kk : aW G σ B (pc + 2) L (.null :: rest) ws k n) : aW G σ B pc L (rest) ws k n :=
  fun H locs ls hP hD hS hl => lv_aloadN hB.hx hB.hb hd (lget_at hl hl0) (kk H locs ls hP hD hS hl)
theorem a_aload_nN (hB : Bok G σ B) {j : Fin 4} (hd : decode σ.cc pc = .ok (.aload_n j, 1)) (hl0 : lget L (j : Nat) = some .null)
    (kk : aW G σ B (pc + 1) L (.null :: rest) ws k n) : aW G σ B pc L (rest) ws k n :=
  fun H locs ls hP hD hS hl => lv_aload_nN hB.hx hB.hb hd rfl (lget_at hl hl0) (kk H locs ls hP hD hS hl)
theorem a_istore (hB : Bok G σ B) {i : Nat} {x : Int32} (hd : decode σ.cc pc = .ok (.istore i, 2)) (hn : i < σ.nL)
    (kk : aW G σ B (pc + 2) (lput1 L i (.int x)) (rest) ws k n) : aW G σ B pc L (.int x :: rest) ws k n :=
  fun H locs ls hP hD hS hl => lv_istore hB.hx hB.hb hd hl hn rfl (fun ls9 hl9 => kk H locs ls9 hP hD hS (lput_has hl9))
theorem a_istore_n (hB : Bok G σ B) {j : Fin 4} {x : Int32} (hd : decode σ.cc pc = .ok (.istore_n j, 1)) (hn : (j : Nat) < σ.nL)
    (kk : aW G σ B (pc + 1) (lput1 L (j : Nat) (.int x)) (rest) ws k n) : aW G σ B pc L (.int x :: rest) ws k n :=
  fun H locs ls hP hD hS hl => lv_istore_n hB.hx hB.hb hd rfl hl hn rfl (fun ls9 hl9 => kk H locs ls9 hP hD hS (lput_has hl9))
theorem a_lstore (hB : Bok G σ B) {i : Nat} {x : Int64} (hd : decode σ.cc pc = .ok (.lstore i, 2)) (hn : i + 1 < σ.nL)
    (kk : aW G σ B (pc + 2) (lput2 L i (.long x)) (rest) ws k n) : aW G σ B pc L (.long x :: rest) ws k n :=
  fun H locs ls hP hD hS hl => lv_lstore hB.hx hB.hb hd hl hn rfl (fun ls9 hl9 => kk H locs ls9 hP hD hS (lput_has hl9))
theorem a_lstore_n (hB : Bok G σ B) {j : Fin 4} {x : Int64} (hd : decode σ.cc pc = .ok (.lstore_n j, 1)) (hn : (j : Nat) + 1 < σ.nL)
    (kk : aW G σ B (pc + 1) (lput2 L (j : Nat) (.long x)) (rest) ws k n) : aW G σ B pc L (.long x :: rest) ws k n :=
  fun H locs ls hP hD hS hl => lv_lstore_n hB.hx hB.hb hd rfl hl hn rfl (fun ls9 hl9 => kk H locs ls9 hP hD hS (lput_has hl9))
theorem a_dstore (hB : Bok G σ B) {i : Nat} {x : UInt64} (hd : decode σ.cc pc = .ok (.dstore i, 2)) (hn : i + 1 < σ.nL)
    (kk : aW G σ B (pc + 2) (lput2 L i (.double x)) (rest) ws k n) : aW G σ B pc L (.double x :: rest) ws k n :=
  fun H locs ls hP hD hS hl => lv_dstore hB.hx hB.hb hd hl hn rfl (fun ls9 hl9 => kk H locs ls9 hP hD hS (lput_has hl9))
theorem a_dstore_n (hB : Bok G σ B) {j : Fin 4} {x : UInt64} (hd : decode σ.cc pc = .ok (.dstore_n j, 1)) (hn : (j : Nat) + 1 < σ.nL)
    (kk : aW G σ B (pc + 1) (lput2 L (j : Nat) (.double x)) (rest) ws k n) : aW G σ B pc L (.double x :: rest) ws k n :=
  fun H locs ls hP hD hS hl => lv_dstore_n hB.hx hB.hb hd rfl hl hn rfl (fun ls9 hl9 => kk H locs ls9 hP hD hS (lput_has hl9))
theorem a_astore (hB : Bok G σ B) {i : Nat} {x : Nat} (hd : decode σ.cc pc = .ok (.astore i, 2)) (hn : i < σ.nL)
    (kk : aW G σ B (pc + 2) (lput1 L i (.ref x)) (rest) ws k n) : aW G σ B pc L (.ref x :: rest) ws k n :=
  fun H locs ls hP hD hS hl => lv_astore hB.hx hB.hb hd hl hn rfl (fun ls9 hl9 => kk H locs ls9 hP hD hS (lput_has hl9))
theorem a_astore_n (hB : Bok G σ B) {j : Fin 4} {x : Nat} (hd : decode σ.cc pc = .ok (.astore_n j, 1)) (hn : (j : Nat) < σ.nL)
    (kk : aW G σ B (pc + 1) (lput1 L (j : Nat) (.ref x)) (rest) ws k n) : aW G σ B pc L (.ref x :: rest) ws k n :=
  fun H locs ls hP hD hS hl => lv_astore_n hB.hx hB.hb hd rfl hl hn rfl (fun ls9 hl9 => kk H locs ls9 hP hD hS (lput_has hl9))
theorem a_astore_nN (hB : Bok G σ B) {j : Fin 4} (hd : decode σ.cc pc = .ok (.astore_n j, 1)) (hn : (j : Nat) < σ.nL)
    (kk : aW G σ B (pc + 1) (lput1 L (j : Nat) .null) (rest) ws k n) : aW G σ B pc L (.null :: rest) ws k n :=
  fun H locs ls hP hD hS hl => lv_astore_nN hB.hx hB.hb hd rfl hl hn rfl (fun ls9 hl9 => kk H locs ls9 hP hD hS (lput_has hl9))
theorem a_iinc (hB : Bok G σ B) {i : Nat} {j : Int} {x v : Int32} (hd : decode σ.cc pc = .ok (.iinc i j, 3)) (hl0 : lget L i = some (.int x)) (hv : Int32.ofInt j = v) (hn : i < σ.nL)
    (kk : aW G σ B (pc + 3) (lput1 L i (.int (x + v))) (rest) ws k n) : aW G σ B pc L (rest) ws k n :=
  fun H locs ls hP hD hS hl => by
    obtain ⟨k9, hk9⟩ := List.mem_iff_getElem?.mp (lget_mem hl0)
    exact lv_iinc hB.hx hB.hb hd hl hk9 (by rw [hv]) hn rfl (fun ls9 hl9 => kk H locs ls9 hP hD hS (lput_has hl9))
theorem a_iadd (hB : Bok G σ B) {x y : Int32} (hd : decode σ.cc pc = .ok (.iadd, 1)) 
    (kk : aW G σ B (pc + 1) L (.int (x + y) :: rest) ws k n) : aW G σ B pc L (.int y :: .int x :: rest) ws k n :=
  fun H locs ls hP hD hS hl => lv_iadd hB.hx hB.hb  hd  (kk H locs ls hP hD hS hl)
theorem a_isub (hB : Bok G σ B) {x y : Int32} (hd : decode σ.cc pc = .ok (.isub, 1)) 
    (kk : aW G σ B (pc + 1) L (.int (x - y) :: rest) ws k n) : aW G σ B pc L (.int y :: .int x :: rest) ws k n :=
  fun H locs ls hP hD hS hl => lv_isub hB.hx hB.hb  hd  (kk H locs ls hP hD hS hl)
theorem a_imul (hB : Bok G σ B) {x y : Int32} (hd : decode σ.cc pc = .ok (.imul, 1)) 
    (kk : aW G σ B (pc + 1) L (.int (x * y) :: rest) ws k n) : aW G σ B pc L (.int y :: .int x :: rest) ws k n :=
  fun H locs ls hP hD hS hl => lv_imul hB.hx hB.hb  hd  (kk H locs ls hP hD hS hl)
theorem a_iand (hB : Bok G σ B) {x y : Int32} (hd : decode σ.cc pc = .ok (.iand, 1)) 
    (kk : aW G σ B (pc + 1) L (.int (x &&& y) :: rest) ws k n) : aW G σ B pc L (.int y :: .int x :: rest) ws k n :=
  fun H locs ls hP hD hS hl => lv_iand hB.hx hB.hb  hd  (kk H locs ls hP hD hS hl)
theorem a_idiv (hB : Bok G σ B) {x y : Int32} (hd : decode σ.cc pc = .ok (.idiv, 1)) (hne : ¬ y = 0)
    (kk : aW G σ B (pc + 1) L (.int (x / y) :: rest) ws k n) : aW G σ B pc L (.int y :: .int x :: rest) ws k n :=
  fun H locs ls hP hD hS hl => lv_idiv hB.hx hB.hb  hd hne (kk H locs ls hP hD hS hl)
theorem a_irem (hB : Bok G σ B) {x y : Int32} (hd : decode σ.cc pc = .ok (.irem, 1)) (hne : ¬ y = 0)
    (kk : aW G σ B (pc + 1) L (.int (x - x / y * y) :: rest) ws k n) : aW G σ B pc L (.int y :: .int x :: rest) ws k n :=
  fun H locs ls hP hD hS hl => lv_irem hB.hx hB.hb  hd hne (kk H locs ls hP hD hS hl)
theorem a_ladd (hB : Bok G σ B) {x y : Int64} (hd : decode σ.cc pc = .ok (.ladd, 1)) 
    (kk : aW G σ B (pc + 1) L (.long (x + y) :: rest) ws k n) : aW G σ B pc L (.long y :: .long x :: rest) ws k n :=
  fun H locs ls hP hD hS hl => lv_ladd hB.hx hB.hb  hd  (kk H locs ls hP hD hS hl)
theorem a_lmul (hB : Bok G σ B) {x y : Int64} (hd : decode σ.cc pc = .ok (.lmul, 1)) 
    (kk : aW G σ B (pc + 1) L (.long (x * y) :: rest) ws k n) : aW G σ B pc L (.long y :: .long x :: rest) ws k n :=
  fun H locs ls hP hD hS hl => lv_lmul hB.hx hB.hb  hd  (kk H locs ls hP hD hS hl)
theorem a_lor (hB : Bok G σ B) {x y : Int64} (hd : decode σ.cc pc = .ok (.lor, 1)) 
    (kk : aW G σ B (pc + 1) L (.long (x ||| y) :: rest) ws k n) : aW G σ B pc L (.long y :: .long x :: rest) ws k n :=
  fun H locs ls hP hD hS hl => lv_lor hB.hx hB.hb  hd  (kk H locs ls hP hD hS hl)
theorem a_lrem (hB : Bok G σ B) {x y : Int64} (hd : decode σ.cc pc = .ok (.lrem, 1)) (hne : ¬ y = 0)
    (kk : aW G σ B (pc + 1) L (.long (x - x / y * y) :: rest) ws k n) : aW G σ B pc L (.long y :: .long x :: rest) ws k n :=
  fun H locs ls hP hD hS hl => lv_lrem hB.hx hB.hb  hd hne (kk H locs ls hP hD hS hl)
theorem a_lshl (hB : Bok G σ B) {x v : Int64} {y : Int32} (hd : decode σ.cc pc = .ok (.lshl, 1)) (hv : x <<< (y.toInt64 &&& 63) = v)
    (kk : aW G σ B (pc + 1) L (.long v :: rest) ws k n) : aW G σ B pc L (.int y :: .long x :: rest) ws k n :=
  fun H locs ls hP hD hS hl => lv_lshl hB.hx hB.hb  hd hv (kk H locs ls hP hD hS hl)
theorem a_l2i (hB : Bok G σ B) {x : Int64} (hd : decode σ.cc pc = .ok (.l2i, 1)) 
    (kk : aW G σ B (pc + 1) L (.int (x.toInt32) :: rest) ws k n) : aW G σ B pc L (.long x :: rest) ws k n :=
  fun H locs ls hP hD hS hl => lv_l2i hB.hx hB.hb  hd rfl (kk H locs ls hP hD hS hl)
theorem a_i2l (hB : Bok G σ B) {x : Int32} (hd : decode σ.cc pc = .ok (.i2l, 1)) 
    (kk : aW G σ B (pc + 1) L (.long (x.toInt64) :: rest) ws k n) : aW G σ B pc L (.int x :: rest) ws k n :=
  fun H locs ls hP hD hS hl => lv_i2l hB.hx hB.hb  hd rfl (kk H locs ls hP hD hS hl)
theorem a_l2d (hB : Bok G σ B) {x : Int64} (hd : decode σ.cc pc = .ok (.l2d, 1)) 
    (kk : aW G σ B (pc + 1) L (.double (FP.l2d x) :: rest) ws k n) : aW G σ B pc L (.long x :: rest) ws k n :=
  fun H locs ls hP hD hS hl => lv_l2d hB.hx hB.hb  hd  (kk H locs ls hP hD hS hl)
theorem a_i2d (hB : Bok G σ B) {x : Int32} (hd : decode σ.cc pc = .ok (.i2d, 1)) 
    (kk : aW G σ B (pc + 1) L (.double (FP.i2d x) :: rest) ws k n) : aW G σ B pc L (.int x :: rest) ws k n :=
  fun H locs ls hP hD hS hl => lv_i2d hB.hx hB.hb  hd  (kk H locs ls hP hD hS hl)
theorem a_d2l (hB : Bok G σ B) {x : UInt64} (hd : decode σ.cc pc = .ok (.d2l, 1)) 
    (kk : aW G σ B (pc + 1) L (.long (FP.d2l x) :: rest) ws k n) : aW G σ B pc L (.double x :: rest) ws k n :=
  fun H locs ls hP hD hS hl => lv_d2l hB.hx hB.hb  hd  (kk H locs ls hP hD hS hl)
theorem a_dneg (hB : Bok G σ B) {x : UInt64} (hd : decode σ.cc pc = .ok (.dneg, 1)) 
    (kk : aW G σ B (pc + 1) L (.double (FP.dneg x) :: rest) ws k n) : aW G σ B pc L (.double x :: rest) ws k n :=
  fun H locs ls hP hD hS hl => lv_dneg hB.hx hB.hb  hd  (kk H locs ls hP hD hS hl)
theorem a_dadd (hB : Bok G σ B) {x y : UInt64} (hd : decode σ.cc pc = .ok (.dadd, 1)) (hne : vf_n64 (FP.dadd x y))
    (kk : aW G σ B (pc + 1) L (.double (FP.dadd x y) :: rest) ws k n) : aW G σ B pc L (.double y :: .double x :: rest) ws k n :=
  fun H locs ls hP hD hS hl => lv_dadd hB.hx hB.hb  hd hne (kk H locs ls hP hD hS hl)
theorem a_dsub (hB : Bok G σ B) {x y : UInt64} (hd : decode σ.cc pc = .ok (.dsub, 1)) (hne : vf_n64 (FP.dsub x y))
    (kk : aW G σ B (pc + 1) L (.double (FP.dsub x y) :: rest) ws k n) : aW G σ B pc L (.double y :: .double x :: rest) ws k n :=
  fun H locs ls hP hD hS hl => lv_dsub hB.hx hB.hb  hd hne (kk H locs ls hP hD hS hl)
theorem a_dmul (hB : Bok G σ B) {x y : UInt64} (hd : decode σ.cc pc = .ok (.dmul, 1)) (hne : vf_n64 (FP.dmul x y))
    (kk : aW G σ B (pc + 1) L (.double (FP.dmul x y) :: rest) ws k n) : aW G σ B pc L (.double y :: .double x :: rest) ws k n :=
  fun H locs ls hP hD hS hl => lv_dmul hB.hx hB.hb  hd hne (kk H locs ls hP hD hS hl)
theorem a_ddiv (hB : Bok G σ B) {x y : UInt64} (hd : decode σ.cc pc = .ok (.ddiv, 1)) (hne : vf_n64 (FP.ddiv x y))
    (kk : aW G σ B (pc + 1) L (.double (FP.ddiv x y) :: rest) ws k n) : aW G σ B pc L (.double y :: .double x :: rest) ws k n :=
  fun H locs ls hP hD hS hl => lv_ddiv hB.hx hB.hb  hd hne (kk H locs ls hP hD hS hl)
theorem a_dcmp (hB : Bok G σ B) {x y : UInt64} {op : CmpOp} (hd : decode σ.cc pc = .ok (.dcmp op, 1)) 
    (kk : aW G σ B (pc + 1) L (.int (Op.cmpValue (FP.dcmp x y) op) :: rest) ws k n) : aW G σ B pc L (.double y :: .double x :: rest) ws k n :=
  fun H locs ls hP hD hS hl => lv_dcmp hB.hx hB.hb  hd  (kk H locs ls hP hD hS hl)
theorem a_lcmp (hB : Bok G σ B) {x y : Int64} (hd : decode σ.cc pc = .ok (.lcmp, 1))
    (kk : aW G σ B (pc + 1) L (.int (lg_cmp x y) :: rest) ws k n) : aW G σ B pc L (.long y :: .long x :: rest) ws k n :=
  fun H locs ls hP hD hS hl => W.lcmp hB.hx hB.hb hd (kk H locs ls hP hD hS hl)
theorem a_dup (hB : Bok G σ B) {va : Value} (hd : decode σ.cc pc = .ok (.dup, 1)) (hva : va.category = 1)
    (kk : aW G σ B (pc + 1) L (va :: va :: rest) ws k n) : aW G σ B pc L (va :: rest) ws k n :=
  fun H locs ls hP hD hS hl => lv_dup hB.hx hB.hb  hd hva (kk H locs ls hP hD hS hl)
theorem a_dup2_2 (hB : Bok G σ B) {va : Value} (hd : decode σ.cc pc = .ok (.dup2, 1)) (hva : va.category = 2)
    (kk : aW G σ B (pc + 1) L (va :: va :: rest) ws k n) : aW G σ B pc L (va :: rest) ws k n :=
  fun H locs ls hP hD hS hl => lv_dup2_2 hB.hx hB.hb  hd hva (kk H locs ls hP hD hS hl)
theorem a_dup2_11 (hB : Bok G σ B) {va vb : Value} (hd : decode σ.cc pc = .ok (.dup2, 1)) (hva : va.category = 1) (hvb : vb.category = 1)
    (kk : aW G σ B (pc + 1) L (va :: vb :: va :: vb :: rest) ws k n) : aW G σ B pc L (va :: vb :: rest) ws k n :=
  fun H locs ls hP hD hS hl => lv_dup2_11 hB.hx hB.hb  hd hva hvb (kk H locs ls hP hD hS hl)
theorem a_goto (hB : Bok G σ B) {off : Int} {tgt : Nat} (hd : decode σ.cc pc = .ok (.goto off, 3)) (ht : (pc : Int) + off = (tgt : Int))
    (kk : aW G σ B tgt L (rest) ws k n) : aW G σ B pc L (rest) ws k n :=
  fun H locs ls hP hD hS hl => lv_goto hB.hx hB.hb hd ht (kk H locs ls hP hD hS hl)
theorem a_if_eq (hB : Bok G σ B) {x : Int32} {off : Int} {tgt : Nat} (hd : decode σ.cc pc = .ok (.ifCond .eq off, 3)) (ht : (pc : Int) + off = (tgt : Int))
    (kt : x = 0 → aW G σ B tgt L (rest) ws k n) (kf : ¬ x = 0 → aW G σ B (pc + 3) L (rest) ws k n) : aW G σ B pc L (.int x :: rest) ws k n :=
  fun H locs ls hP hD hS hl => lv_if_eq hB.hx hB.hb hd ht (fun h => kt h H locs ls hP hD hS hl) (fun h => kf h H locs ls hP hD hS hl)
theorem a_if_eq_t (hB : Bok G σ B) {x : Int32} {off : Int} {tgt : Nat} (hd : decode σ.cc pc = .ok (.ifCond .eq off, 3)) (ht : (pc : Int) + off = (tgt : Int)) (h0 : x = 0)
    (kt : aW G σ B tgt L (rest) ws k n) : aW G σ B pc L (.int x :: rest) ws k n :=
  a_if_eq hB hd ht (fun _ => kt) (fun h => by first | exact absurd h0 h | exact absurd h h0)
theorem a_if_eq_f (hB : Bok G σ B) {x : Int32} {off : Int} {tgt : Nat} (hd : decode σ.cc pc = .ok (.ifCond .eq off, 3)) (ht : (pc : Int) + off = (tgt : Int)) (h0 : ¬ x = 0)
    (kf : aW G σ B (pc + 3) L (rest) ws k n) : aW G σ B pc L (.int x :: rest) ws k n :=
  a_if_eq hB hd ht (fun h => by first | exact absurd h0 h | exact absurd h h0) (fun _ => kf)
theorem a_if_ne (hB : Bok G σ B) {x : Int32} {off : Int} {tgt : Nat} (hd : decode σ.cc pc = .ok (.ifCond .ne off, 3)) (ht : (pc : Int) + off = (tgt : Int))
    (kt : ¬ x = 0 → aW G σ B tgt L (rest) ws k n) (kf : x = 0 → aW G σ B (pc + 3) L (rest) ws k n) : aW G σ B pc L (.int x :: rest) ws k n :=
  fun H locs ls hP hD hS hl => lv_if_ne hB.hx hB.hb hd ht (fun h => kt h H locs ls hP hD hS hl) (fun h => kf h H locs ls hP hD hS hl)
theorem a_if_ne_t (hB : Bok G σ B) {x : Int32} {off : Int} {tgt : Nat} (hd : decode σ.cc pc = .ok (.ifCond .ne off, 3)) (ht : (pc : Int) + off = (tgt : Int)) (h0 : ¬ x = 0)
    (kt : aW G σ B tgt L (rest) ws k n) : aW G σ B pc L (.int x :: rest) ws k n :=
  a_if_ne hB hd ht (fun _ => kt) (fun h => by first | exact absurd h0 h | exact absurd h h0)
theorem a_if_ne_f (hB : Bok G σ B) {x : Int32} {off : Int} {tgt : Nat} (hd : decode σ.cc pc = .ok (.ifCond .ne off, 3)) (ht : (pc : Int) + off = (tgt : Int)) (h0 : x = 0)
    (kf : aW G σ B (pc + 3) L (rest) ws k n) : aW G σ B pc L (.int x :: rest) ws k n :=
  a_if_ne hB hd ht (fun h => by first | exact absurd h0 h | exact absurd h h0) (fun _ => kf)
theorem a_if_lt (hB : Bok G σ B) {x : Int32} {off : Int} {tgt : Nat} (hd : decode σ.cc pc = .ok (.ifCond .lt off, 3)) (ht : (pc : Int) + off = (tgt : Int))
    (kt : x < 0 → aW G σ B tgt L (rest) ws k n) (kf : ¬ x < 0 → aW G σ B (pc + 3) L (rest) ws k n) : aW G σ B pc L (.int x :: rest) ws k n :=
  fun H locs ls hP hD hS hl => lv_if_lt hB.hx hB.hb hd ht (fun h => kt h H locs ls hP hD hS hl) (fun h => kf h H locs ls hP hD hS hl)
theorem a_if_lt_t (hB : Bok G σ B) {x : Int32} {off : Int} {tgt : Nat} (hd : decode σ.cc pc = .ok (.ifCond .lt off, 3)) (ht : (pc : Int) + off = (tgt : Int)) (h0 : x < 0)
    (kt : aW G σ B tgt L (rest) ws k n) : aW G σ B pc L (.int x :: rest) ws k n :=
  a_if_lt hB hd ht (fun _ => kt) (fun h => by first | exact absurd h0 h | exact absurd h h0)
theorem a_if_lt_f (hB : Bok G σ B) {x : Int32} {off : Int} {tgt : Nat} (hd : decode σ.cc pc = .ok (.ifCond .lt off, 3)) (ht : (pc : Int) + off = (tgt : Int)) (h0 : ¬ x < 0)
    (kf : aW G σ B (pc + 3) L (rest) ws k n) : aW G σ B pc L (.int x :: rest) ws k n :=
  a_if_lt hB hd ht (fun h => by first | exact absurd h0 h | exact absurd h h0) (fun _ => kf)
theorem a_if_ge (hB : Bok G σ B) {x : Int32} {off : Int} {tgt : Nat} (hd : decode σ.cc pc = .ok (.ifCond .ge off, 3)) (ht : (pc : Int) + off = (tgt : Int))
    (kt : 0 ≤ x → aW G σ B tgt L (rest) ws k n) (kf : ¬ 0 ≤ x → aW G σ B (pc + 3) L (rest) ws k n) : aW G σ B pc L (.int x :: rest) ws k n :=
  fun H locs ls hP hD hS hl => lv_if_ge hB.hx hB.hb hd ht (fun h => kt h H locs ls hP hD hS hl) (fun h => kf h H locs ls hP hD hS hl)
theorem a_if_ge_t (hB : Bok G σ B) {x : Int32} {off : Int} {tgt : Nat} (hd : decode σ.cc pc = .ok (.ifCond .ge off, 3)) (ht : (pc : Int) + off = (tgt : Int)) (h0 : 0 ≤ x)
    (kt : aW G σ B tgt L (rest) ws k n) : aW G σ B pc L (.int x :: rest) ws k n :=
  a_if_ge hB hd ht (fun _ => kt) (fun h => by first | exact absurd h0 h | exact absurd h h0)
theorem a_if_ge_f (hB : Bok G σ B) {x : Int32} {off : Int} {tgt : Nat} (hd : decode σ.cc pc = .ok (.ifCond .ge off, 3)) (ht : (pc : Int) + off = (tgt : Int)) (h0 : ¬ 0 ≤ x)
    (kf : aW G σ B (pc + 3) L (rest) ws k n) : aW G σ B pc L (.int x :: rest) ws k n :=
  a_if_ge hB hd ht (fun h => by first | exact absurd h0 h | exact absurd h h0) (fun _ => kf)
theorem a_if_gt (hB : Bok G σ B) {x : Int32} {off : Int} {tgt : Nat} (hd : decode σ.cc pc = .ok (.ifCond .gt off, 3)) (ht : (pc : Int) + off = (tgt : Int))
    (kt : 0 < x → aW G σ B tgt L (rest) ws k n) (kf : ¬ 0 < x → aW G σ B (pc + 3) L (rest) ws k n) : aW G σ B pc L (.int x :: rest) ws k n :=
  fun H locs ls hP hD hS hl => lv_if_gt hB.hx hB.hb hd ht (fun h => kt h H locs ls hP hD hS hl) (fun h => kf h H locs ls hP hD hS hl)
theorem a_if_gt_t (hB : Bok G σ B) {x : Int32} {off : Int} {tgt : Nat} (hd : decode σ.cc pc = .ok (.ifCond .gt off, 3)) (ht : (pc : Int) + off = (tgt : Int)) (h0 : 0 < x)
    (kt : aW G σ B tgt L (rest) ws k n) : aW G σ B pc L (.int x :: rest) ws k n :=
  a_if_gt hB hd ht (fun _ => kt) (fun h => by first | exact absurd h0 h | exact absurd h h0)
theorem a_if_gt_f (hB : Bok G σ B) {x : Int32} {off : Int} {tgt : Nat} (hd : decode σ.cc pc = .ok (.ifCond .gt off, 3)) (ht : (pc : Int) + off = (tgt : Int)) (h0 : ¬ 0 < x)
    (kf : aW G σ B (pc + 3) L (rest) ws k n) : aW G σ B pc L (.int x :: rest) ws k n :=
  a_if_gt hB hd ht (fun h => by first | exact absurd h0 h | exact absurd h h0) (fun _ => kf)
theorem a_if_le (hB : Bok G σ B) {x : Int32} {off : Int} {tgt : Nat} (hd : decode σ.cc pc = .ok (.ifCond .le off, 3)) (ht : (pc : Int) + off = (tgt : Int))
    (kt : x ≤ 0 → aW G σ B tgt L (rest) ws k n) (kf : ¬ x ≤ 0 → aW G σ B (pc + 3) L (rest) ws k n) : aW G σ B pc L (.int x :: rest) ws k n :=
  fun H locs ls hP hD hS hl => lv_if_le hB.hx hB.hb hd ht (fun h => kt h H locs ls hP hD hS hl) (fun h => kf h H locs ls hP hD hS hl)
theorem a_if_le_t (hB : Bok G σ B) {x : Int32} {off : Int} {tgt : Nat} (hd : decode σ.cc pc = .ok (.ifCond .le off, 3)) (ht : (pc : Int) + off = (tgt : Int)) (h0 : x ≤ 0)
    (kt : aW G σ B tgt L (rest) ws k n) : aW G σ B pc L (.int x :: rest) ws k n :=
  a_if_le hB hd ht (fun _ => kt) (fun h => by first | exact absurd h0 h | exact absurd h h0)
theorem a_if_le_f (hB : Bok G σ B) {x : Int32} {off : Int} {tgt : Nat} (hd : decode σ.cc pc = .ok (.ifCond .le off, 3)) (ht : (pc : Int) + off = (tgt : Int)) (h0 : ¬ x ≤ 0)
    (kf : aW G σ B (pc + 3) L (rest) ws k n) : aW G σ B pc L (.int x :: rest) ws k n :=
  a_if_le hB hd ht (fun h => by first | exact absurd h0 h | exact absurd h h0) (fun _ => kf)
theorem a_icmp_eq (hB : Bok G σ B) {x y : Int32} {off : Int} {tgt : Nat} (hd : decode σ.cc pc = .ok (.if_icmp .eq off, 3)) (ht : (pc : Int) + off = (tgt : Int))
    (kt : x = y → aW G σ B tgt L (rest) ws k n) (kf : ¬ x = y → aW G σ B (pc + 3) L (rest) ws k n) : aW G σ B pc L (.int y :: .int x :: rest) ws k n :=
  fun H locs ls hP hD hS hl => lv_icmp_eq hB.hx hB.hb hd ht (fun h => kt h H locs ls hP hD hS hl) (fun h => kf h H locs ls hP hD hS hl)
theorem a_icmp_eq_t (hB : Bok G σ B) {x y : Int32} {off : Int} {tgt : Nat} (hd : decode σ.cc pc = .ok (.if_icmp .eq off, 3)) (ht : (pc : Int) + off = (tgt : Int)) (h0 : x = y)
    (kt : aW G σ B tgt L (rest) ws k n) : aW G σ B pc L (.int y :: .int x :: rest) ws k n :=
  a_icmp_eq hB hd ht (fun _ => kt) (fun h => by first | exact absurd h0 h | exact absurd h h0)
theorem a_icmp_eq_f (hB : Bok G σ B) {x y : Int32} {off : Int} {tgt : Nat} (hd : decode σ.cc pc = .ok (.if_icmp .eq off, 3)) (ht : (pc : Int) + off = (tgt : Int)) (h0 : ¬ x = y)
    (kf : aW G σ B (pc + 3) L (rest) ws k n) : aW G σ B pc L (.int y :: .int x :: rest) ws k n :=
  a_icmp_eq hB hd ht (fun h => by first | exact absurd h0 h | exact absurd h h0) (fun _ => kf)
theorem a_icmp_ne (hB : Bok G σ B) {x y : Int32} {off : Int} {tgt : Nat} (hd : decode σ.cc pc = .ok (.if_icmp .ne off, 3)) (ht : (pc : Int) + off = (tgt : Int))
    (kt : ¬ x = y → aW G σ B tgt L (rest) ws k n) (kf : x = y → aW G σ B (pc + 3) L (rest) ws k n) : aW G σ B pc L (.int y :: .int x :: rest) ws k n :=
  fun H locs ls hP hD hS hl => lv_icmp_ne hB.hx hB.hb hd ht (fun h => kt h H locs ls hP hD hS hl) (fun h => kf h H locs ls hP hD hS hl)
theorem a_icmp_ne_t (hB : Bok G σ B) {x y : Int32} {off : Int} {tgt : Nat} (hd : decode σ.cc pc = .ok (.if_icmp .ne off, 3)) (ht : (pc : Int) + off = (tgt : Int)) (h0 : ¬ x = y)
    (kt : aW G σ B tgt L (rest) ws k n) : aW G σ B pc L (.int y :: .int x :: rest) ws k n :=
  a_icmp_ne hB hd ht (fun _ => kt) (fun h => by first | exact absurd h0 h | exact absurd h h0)
theorem a_icmp_ne_f (hB : Bok G σ B) {x y : Int32} {off : Int} {tgt : Nat} (hd : decode σ.cc pc = .ok (.if_icmp .ne off, 3)) (ht : (pc : Int) + off = (tgt : Int)) (h0 : x = y)
    (kf : aW G σ B (pc + 3) L (rest) ws k n) : aW G σ B pc L (.int y :: .int x :: rest) ws k n :=
  a_icmp_ne hB hd ht (fun h => by first | exact absurd h0 h | exact absurd h h0) (fun _ => kf)
theorem a_icmp_lt (hB : Bok G σ B) {x y : Int32} {off : Int} {tgt : Nat} (hd : decode σ.cc pc = .ok (.if_icmp .lt off, 3)) (ht : (pc : Int) + off = (tgt : Int))
    (kt : x < y → aW G σ B tgt L (rest) ws k n) (kf : ¬ x < y → aW G σ B (pc + 3) L (rest) ws k n) : aW G σ B pc L (.int y :: .int x :: rest) ws k n :=
  fun H locs ls hP hD hS hl => lv_icmp_lt hB.hx hB.hb hd ht (fun h => kt h H locs ls hP hD hS hl) (fun h => kf h H locs ls hP hD hS hl)
theorem a_icmp_lt_t (hB : Bok G σ B) {x y : Int32} {off : Int} {tgt : Nat} (hd : decode σ.cc pc = .ok (.if_icmp .lt off, 3)) (ht : (pc : Int) + off = (tgt : Int)) (h0 : x < y)
    (kt : aW G σ B tgt L (rest) ws k n) : aW G σ B pc L (.int y :: .int x :: rest) ws k n :=
  a_icmp_lt hB hd ht (fun _ => kt) (fun h => by first | exact absurd h0 h | exact absurd h h0)
theorem a_icmp_lt_f (hB : Bok G σ B) {x y : Int32} {off : Int} {tgt : Nat} (hd : decode σ.cc pc = .ok (.if_icmp .lt off, 3)) (ht : (pc : Int) + off = (tgt : Int)) (h0 : ¬ x < y)
    (kf : aW G σ B (pc + 3) L (rest) ws k n) : aW G σ B pc L (.int y :: .int x :: rest) ws k n :=
  a_icmp_lt hB hd ht (fun h => by first | exact absurd h0 h | exact absurd h h0) (fun _ => kf)
theorem a_icmp_ge (hB : Bok G σ B) {x y : Int32} {off : Int} {tgt : Nat} (hd : decode σ.cc pc = .ok (.if_icmp .ge off, 3)) (ht : (pc : Int) + off = (tgt : Int))
    (kt : y ≤ x → aW G σ B tgt L (rest) ws k n) (kf : ¬ y ≤ x → aW G σ B (pc + 3) L (rest) ws k n) : aW G σ B pc L (.int y :: .int x :: rest) ws k n :=
  fun H locs ls hP hD hS hl => lv_icmp_ge hB.hx hB.hb hd ht (fun h => kt h H locs ls hP hD hS hl) (fun h => kf h H locs ls hP hD hS hl)
theorem a_icmp_ge_t (hB : Bok G σ B) {x y : Int32} {off : Int} {tgt : Nat} (hd : decode σ.cc pc = .ok (.if_icmp .ge off, 3)) (ht : (pc : Int) + off = (tgt : Int)) (h0 : y ≤ x)
    (kt : aW G σ B tgt L (rest) ws k n) : aW G σ B pc L (.int y :: .int x :: rest) ws k n :=
  a_icmp_ge hB hd ht (fun _ => kt) (fun h => by first | exact absurd h0 h | exact absurd h h0)
theorem a_icmp_ge_f (hB : Bok G σ B) {x y : Int32} {off : Int} {tgt : Nat} (hd : decode σ.cc pc = .ok (.if_icmp .ge off, 3)) (ht : (pc : Int) + off = (tgt : Int)) (h0 : ¬ y ≤ x)
    (kf : aW G σ B (pc + 3) L (rest) ws k n) : aW G σ B pc L (.int y :: .int x :: rest) ws k n :=
  a_icmp_ge hB hd ht (fun h => by first | exact absurd h0 h | exact absurd h h0) (fun _ => kf)
theorem a_icmp_gt (hB : Bok G σ B) {x y : Int32} {off : Int} {tgt : Nat} (hd : decode σ.cc pc = .ok (.if_icmp .gt off, 3)) (ht : (pc : Int) + off = (tgt : Int))
    (kt : y < x → aW G σ B tgt L (rest) ws k n) (kf : ¬ y < x → aW G σ B (pc + 3) L (rest) ws k n) : aW G σ B pc L (.int y :: .int x :: rest) ws k n :=
  fun H locs ls hP hD hS hl => lv_icmp_gt hB.hx hB.hb hd ht (fun h => kt h H locs ls hP hD hS hl) (fun h => kf h H locs ls hP hD hS hl)
theorem a_icmp_gt_t (hB : Bok G σ B) {x y : Int32} {off : Int} {tgt : Nat} (hd : decode σ.cc pc = .ok (.if_icmp .gt off, 3)) (ht : (pc : Int) + off = (tgt : Int)) (h0 : y < x)
    (kt : aW G σ B tgt L (rest) ws k n) : aW G σ B pc L (.int y :: .int x :: rest) ws k n :=
  a_icmp_gt hB hd ht (fun _ => kt) (fun h => by first | exact absurd h0 h | exact absurd h h0)
theorem a_icmp_gt_f (hB : Bok G σ B) {x y : Int32} {off : Int} {tgt : Nat} (hd : decode σ.cc pc = .ok (.if_icmp .gt off, 3)) (ht : (pc : Int) + off = (tgt : Int)) (h0 : ¬ y < x)
    (kf : aW G σ B (pc + 3) L (rest) ws k n) : aW G σ B pc L (.int y :: .int x :: rest) ws k n :=
  a_icmp_gt hB hd ht (fun h => by first | exact absurd h0 h | exact absurd h h0) (fun _ => kf)
theorem a_icmp_le (hB : Bok G σ B) {x y : Int32} {off : Int} {tgt : Nat} (hd : decode σ.cc pc = .ok (.if_icmp .le off, 3)) (ht : (pc : Int) + off = (tgt : Int))
    (kt : x ≤ y → aW G σ B tgt L (rest) ws k n) (kf : ¬ x ≤ y → aW G σ B (pc + 3) L (rest) ws k n) : aW G σ B pc L (.int y :: .int x :: rest) ws k n :=
  fun H locs ls hP hD hS hl => lv_icmp_le hB.hx hB.hb hd ht (fun h => kt h H locs ls hP hD hS hl) (fun h => kf h H locs ls hP hD hS hl)
theorem a_icmp_le_t (hB : Bok G σ B) {x y : Int32} {off : Int} {tgt : Nat} (hd : decode σ.cc pc = .ok (.if_icmp .le off, 3)) (ht : (pc : Int) + off = (tgt : Int)) (h0 : x ≤ y)
    (kt : aW G σ B tgt L (rest) ws k n) : aW G σ B pc L (.int y :: .int x :: rest) ws k n :=
  a_icmp_le hB hd ht (fun _ => kt) (fun h => by first | exact absurd h0 h | exact absurd h h0)
theorem a_icmp_le_f (hB : Bok G σ B) {x y : Int32} {off : Int} {tgt : Nat} (hd : decode σ.cc pc = .ok (.if_icmp .le off, 3)) (ht : (pc : Int) + off = (tgt : Int)) (h0 : ¬ x ≤ y)
    (kf : aW G σ B (pc + 3) L (rest) ws k n) : aW G σ B pc L (.int y :: .int x :: rest) ws k n :=
  a_icmp_le hB hd ht (fun h => by first | exact absurd h0 h | exact absurd h h0) (fun _ => kf)
theorem a_ifnonnull (hB : Bok G σ B) {x : Nat} {off : Int} {tgt : Nat} (hd : decode σ.cc pc = .ok (.ifnonnull off, 3)) (ht : (pc : Int) + off = (tgt : Int))
    (kk : aW G σ B tgt L (rest) ws k n) : aW G σ B pc L (.ref x :: rest) ws k n :=
  fun H locs ls hP hD hS hl => lv_ifnonnull hB.hx hB.hb hd ht (kk H locs ls hP hD hS hl)
theorem a_ifnonnullN (hB : Bok G σ B) {off : Int} (hd : decode σ.cc pc = .ok (.ifnonnull off, 3))
    (kk : aW G σ B (pc + 3) L (rest) ws k n) : aW G σ B pc L (.null :: rest) ws k n :=
  fun H locs ls hP hD hS hl => lv_ifnonnullN hB.hx hB.hb hd (kk H locs ls hP hD hS hl)
theorem a_tableIn (hB : Bok G σ B) {dflt lo hi : Int} {offs : Array Int} {len : Nat} {x : Int32} {off : Int} {tgt : Nat} (hd : decode σ.cc pc = .ok (.tableswitch dflt lo hi offs, len)) (h1 : ¬ x.toInt < lo) (h2 : ¬ hi < x.toInt) (ho : offs[(x.toInt - lo).toNat]? = some off) (ht : (pc : Int) + off = (tgt : Int))
    (kk : aW G σ B tgt L (rest) ws k n) : aW G σ B pc L (.int x :: rest) ws k n :=
  fun H locs ls hP hD hS hl => lv_tableIn hB.hx hB.hb hd h1 h2 ho ht (kk H locs ls hP hD hS hl)
theorem a_tableOut (hB : Bok G σ B) {dflt lo hi : Int} {offs : Array Int} {len : Nat} {x : Int32} {tgt : Nat} (hd : decode σ.cc pc = .ok (.tableswitch dflt lo hi offs, len)) (h : x.toInt < lo ∨ hi < x.toInt) (ht : (pc : Int) + dflt = (tgt : Int))
    (kk : aW G σ B tgt L (rest) ws k n) : aW G σ B pc L (.int x :: rest) ws k n :=
  fun H locs ls hP hD hS hl => lv_tableOut hB.hx hB.hb hd h ht (kk H locs ls hP hD hS hl)
theorem a_ldc (hB : Bok G σ B) {index : Nat} {v : Int32} (hd : decode σ.cc pc = .ok (.ldc index, 2)) (hw : Cond.constant σ.own index v ∈ gw)
    (kk : aW G σ B (pc + 2) L (.int v :: rest) ws k n) : aW G σ B pc L (rest) ws k n :=
  fun H locs ls hP hD hS hl => lv_ldc hB.hx hB.hb hB.hown (hB.hts _ hw) hd (kk H locs ls hP hD hS hl)
theorem a_ldcw (hB : Bok G σ B) {index : Nat} {v : Int32} (hd : decode σ.cc pc = .ok (.ldc_w index, 3)) (hw : Cond.constant σ.own index v ∈ gw)
    (kk : aW G σ B (pc + 3) L (.int v :: rest) ws k n) : aW G σ B pc L (rest) ws k n :=
  fun H locs ls hP hD hS hl => lv_ldcw hB.hx hB.hb hB.hown (hB.hts _ hw) hd (kk H locs ls hP hD hS hl)
theorem a_ldc2 (hB : Bok G σ B) {index : Nat} {v : Int64} (hd : decode σ.cc pc = .ok (.ldc2_w index, 3)) (hw : Cond.constantLong σ.own index v ∈ gw)
    (kk : aW G σ B (pc + 3) L (.long v :: rest) ws k n) : aW G σ B pc L (rest) ws k n :=
  fun H locs ls hP hD hS hl => lv_ldc2 hB.hx hB.hb hB.hown (hB.hts _ hw) hd (kk H locs ls hP hD hS hl)
theorem a_ldc2d (hB : Bok G σ B) {index : Nat} {v : UInt64} (hd : decode σ.cc pc = .ok (.ldc2_w index, 3)) (hw : Cond.constantDouble σ.own index v ∈ gw)
    (kk : aW G σ B (pc + 3) L (.double v :: rest) ws k n) : aW G σ B pc L (rest) ws k n :=
  fun H locs ls hP hD hS hl => lv_ldc2d hB.hx hB.hb hB.hown (hB.hts _ hw) hd (kk H locs ls hP hD hS hl)
theorem a_get (hB : Bok G σ B) {index ci N a : Nat} {C ref : String} {T : u_T} {fs : List Value} {v : Value} (hd : decode σ.cc pc = .ok (.getfield index, 3)) (kf : Nat) (hw : Cond.fieldLink σ.own index ref (T kf).2.1 (T kf).2.2.1 ∈ gw) (hin : ∀ w ∈ u_ws C T N, w ∈ gw) (hc : vwCl[ci]? = some (C, T, N)) (hk : kf < N) (hr : (T kf).1 = ref) (q0 : Nat) (he : ws[q0]? = some (a, .inr (ci, fs))) (hv : fs[kf]? = some v)
    (kk : aW G σ B (pc + 3) L (v :: rest) ws k n) : aW G σ B pc L (.ref a :: rest) ws k n :=
  fun H locs ls hP hD hS hl => va_get (D := G.D) (ci := ci) hB.hx hB.hb hB.hts hin hB.hown hB.hK hP q0 he hc kf hk (hB.hts _ hw) (by subst hr; exact fun _ h => h) hv hd (kk H locs ls hP hD hS hl)
theorem a_put (hB : Bok G σ B) {index ci N a : Nat} {C ref : String} {T : u_T} {fs : List Value} {v : Value} {ty : FieldType} (hd : decode σ.cc pc = .ok (.putfield index, 3)) (kf : Nat) (hw : Cond.fieldLink σ.own index ref (T kf).2.1 (T kf).2.2.1 ∈ gw) (hin : ∀ w ∈ u_ws C T N, w ∈ gw) (ty0 : Nat → FieldType) (hty : ∀ k, k < N → parseFieldDescriptor (T k).2.2.1 = some (ty0 k)) (hnm : ∀ a, a < N → ∀ b, b < N → a ≠ b → (T a).2.1 ≠ (T b).2.1) (hc : vwCl[ci]? = some (C, T, N)) (hk : kf < N) (hr : (T kf).1 = ref) (hfin : (T kf).2.2.2 = false) (q0 : Nat) (he : ws[q0]? = some (a, .inr (ci, fs))) (hty1 : ty0 kf = ty) (hn : narrow ty v = v) (hfit : fits ty v = true) (hlf : kf < fs.length)
    (kk : aW G σ B (pc + 3) L (rest) (ws.set q0 (a, .inr (ci, fs.set kf v))) k n) : aW G σ B pc L (v :: .ref a :: rest) ws k n :=
  fun H locs ls hP hD hS hl => va_put (D := G.D) (ci := ci) hB.hx hB.hb hB.hts hin ty0 hty hnm hB.hown hB.hK hP hD hS q0 he hc kf hk (hB.hts _ hw) (by subst hr; exact fun _ h => h) hfin (by rw [hty kf hk, hty1]) hn hfit hlf hd (fun H1 locs1 hP1 hD1 hS1 => kk H1 locs1 ls hP1 hD1 hS1 hl)
theorem a_putF (hB : Bok G σ B) {index ci N a : Nat} {C ref : String} {T : u_T} {fs : List Value} {v : Value} {ty : FieldType} (hin2 : B.meth.name = "<init>") (hd : decode σ.cc pc = .ok (.putfield index, 3)) (kf : Nat) (hw : Cond.fieldLink σ.own index ref (T kf).2.1 (T kf).2.2.1 ∈ gw) (hin : ∀ w ∈ u_ws C T N, w ∈ gw) (ty0 : Nat → FieldType) (hty : ∀ k, k < N → parseFieldDescriptor (T k).2.2.1 = some (ty0 k)) (hnm : ∀ a, a < N → ∀ b, b < N → a ≠ b → (T a).2.1 ≠ (T b).2.1) (hc : vwCl[ci]? = some (C, T, N)) (hk : kf < N) (hr : (T kf).1 = ref) (hown : (T kf).1 = σ.own) (hfin : (T kf).2.2.2 = true) (q0 : Nat) (he : ws[q0]? = some (a, .inr (ci, fs))) (hty1 : ty0 kf = ty) (hn : narrow ty v = v) (hfit : fits ty v = true) (hlf : kf < fs.length)
    (kk : aW G σ B (pc + 3) L (rest) (ws.set q0 (a, .inr (ci, fs.set kf v))) k n) : aW G σ B pc L (v :: .ref a :: rest) ws k n :=
  fun H locs ls hP hD hS hl => va_putF (D := G.D) (ci := ci) hB.hx hB.hb hB.hts hin ty0 hty hnm hB.hown hB.hK hP hD hS q0 he hc kf hk (hB.hts _ hw) (by subst hr; exact fun _ h => h) hfin hin2 hown (by rw [hty kf hk, hty1]) hn hfit hlf hd (fun H1 locs1 hP1 hD1 hS1 => kk H1 locs1 ls hP1 hD1 hS1 hl)
theorem a_iaload (hB : Bok G σ B) {a N : Nat} {f : Nat → Int32} {i : Int32} (hd : decode σ.cc pc = .ok (.iaload, 1)) (q0 : Nat) (he : ws[q0]? = some (a, aI G N f)) (hin : vp_in i N)
    (kk : aW G σ B (pc + 1) L (.int (f i.toNatClampNeg) :: rest) ws k n) : aW G σ B pc L (.int i :: .ref a :: rest) ws k n :=
  fun H locs ls hP hD hS hl => va_iald (D := G.D) hB.hx hB.hb hB.hK hP q0 1 he rfl hin hd (kk H locs ls hP hD hS hl)
theorem a_iastore (hB : Bok G σ B) {a N : Nat} {f : Nat → Int32} {i : Int32} {x : Int32} (hd : decode σ.cc pc = .ok (.iastore, 1)) (q0 : Nat) (he : ws[q0]? = some (a, aI G N f)) (hin : vp_in i N)
    (kk : aW G σ B (pc + 1) L (rest) (ws.set q0 (a, aI G N (upd f i.toNatClampNeg x))) k n) : aW G σ B pc L (.int x :: .int i :: .ref a :: rest) ws k n :=
  fun H locs ls hP hD hS hl => va_iast (D := G.D) hB.hx hB.hb hB.hK hP hD hS q0 1 he rfl hin hd (fun H1 locs1 hP1 hD1 hS1 => kk H1 locs1 ls hP1 hD1 hS1 hl)
theorem a_laload (hB : Bok G σ B) {a N : Nat} {f : Nat → Int64} {i : Int32} (hd : decode σ.cc pc = .ok (.laload, 1)) (q0 : Nat) (he : ws[q0]? = some (a, aJ G N f)) (hin : vp_in i N)
    (kk : aW G σ B (pc + 1) L (.long (f i.toNatClampNeg) :: rest) ws k n) : aW G σ B pc L (.int i :: .ref a :: rest) ws k n :=
  fun H locs ls hP hD hS hl => va_lald (D := G.D) hB.hx hB.hb hB.hK hP q0 2 he rfl hin hd (kk H locs ls hP hD hS hl)
theorem a_lastore (hB : Bok G σ B) {a N : Nat} {f : Nat → Int64} {i : Int32} {x : Int64} (hd : decode σ.cc pc = .ok (.lastore, 1)) (q0 : Nat) (he : ws[q0]? = some (a, aJ G N f)) (hin : vp_in i N)
    (kk : aW G σ B (pc + 1) L (rest) (ws.set q0 (a, aJ G N (vp_updL f i.toNatClampNeg x))) k n) : aW G σ B pc L (.long x :: .int i :: .ref a :: rest) ws k n :=
  fun H locs ls hP hD hS hl => va_last (D := G.D) hB.hx hB.hb hB.hK hP hD hS q0 2 he rfl hin hd (fun H1 locs1 hP1 hD1 hS1 => kk H1 locs1 ls hP1 hD1 hS1 hl)
theorem a_daload (hB : Bok G σ B) {a N : Nat} {f : Nat → UInt64} {i : Int32} (hd : decode σ.cc pc = .ok (.daload, 1)) (q0 : Nat) (he : ws[q0]? = some (a, aD G N f)) (hin : vp_in i N)
    (kk : aW G σ B (pc + 1) L (.double (f i.toNatClampNeg) :: rest) ws k n) : aW G σ B pc L (.int i :: .ref a :: rest) ws k n :=
  fun H locs ls hP hD hS hl => va_dald (D := G.D) hB.hx hB.hb hB.hK hP q0 0 he rfl hin hd (kk H locs ls hP hD hS hl)
theorem a_dastore (hB : Bok G σ B) {a N : Nat} {f : Nat → UInt64} {i : Int32} {x : UInt64} (hd : decode σ.cc pc = .ok (.dastore, 1)) (q0 : Nat) (he : ws[q0]? = some (a, aD G N f)) (hin : vp_in i N)
    (kk : aW G σ B (pc + 1) L (rest) (ws.set q0 (a, aD G N (vf_upd f i.toNatClampNeg x))) k n) : aW G σ B pc L (.double x :: .int i :: .ref a :: rest) ws k n :=
  fun H locs ls hP hD hS hl => va_dast (D := G.D) hB.hx hB.hb hB.hK hP hD hS q0 0 he rfl hin hd (fun H1 locs1 hP1 hD1 hS1 => kk H1 locs1 ls hP1 hD1 hS1 hl)
theorem a_aaload (hB : Bok G σ B) {a N : Nat} {f : Nat → Option Nat} {i : Int32} (hd : decode σ.cc pc = .ok (.aaload, 1)) (q0 : Nat) (he : ws[q0]? = some (a, aP G N f)) (hin : vp_in i N)
    (kk : aW G σ B (pc + 1) L (va_rf (f i.toNatClampNeg) :: rest) ws k n) : aW G σ B pc L (.int i :: .ref a :: rest) ws k n :=
  fun H locs ls hP hD hS hl => va_aldq (D := G.D) hB.hx hB.hb hB.hK hP q0 3 he rfl hin hd (kk H locs ls hP hD hS hl)
theorem a_aastore (hB : Bok G σ B) {a N v : Nat} {f : Nat → Option Nat} {i : Int32} {vs : List Value} (hd : decode σ.cc pc = .ok (.aastore, 1)) (q0 qk : Nat) (he : ws[q0]? = some (a, aP G N f)) (hv : ws[qk]? = some (v, .inr (4, vs))) (hin : vp_in i N)
    (kk : aW G σ B (pc + 1) L (rest) (ws.set q0 (a, aP G N (va_up f i.toNatClampNeg (some v)))) k n) : aW G σ B pc L (.ref v :: .int i :: .ref a :: rest) ws k n :=
  fun H locs ls hP hD hS hl => va_astq (D := G.D) hB.hx hB.hb hB.hK hP hD hS q0 3 qk 4 (r := (RX4, TX4, 6)) he rfl hv rfl hin hd (fun H1 locs1 hP1 hD1 hS1 => kk H1 locs1 ls hP1 hD1 hS1 hl)
theorem a_alen (hB : Bok G σ B) {a : Nat} {cA : ClassId} {ty : FieldType} {x : vp_A} {v : Int32} (hd : decode σ.cc pc = .ok (.arraylength, 1)) (q0 t0 : Nat) (he : ws[q0]? = some (a, .inl (cA, x))) (ht : G.tys[t0]? = some (cA, ty)) (hv : Int32.ofNat x.1 = v)
    (kk : aW G σ B (pc + 1) L (.int v :: rest) ws k n) : aW G σ B pc L (.ref a :: rest) ws k n :=
  fun H locs ls hP hD hS hl => va_alen (D := G.D) hB.hx hB.hb hB.hK hP q0 t0 he ht hv hd (kk H locs ls hP hD hS hl)
end Ops
end
