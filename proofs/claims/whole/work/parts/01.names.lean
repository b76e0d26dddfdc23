-- ===== PART A: goes FIRST, ahead of the names: the tables' words, and 'selects' of the private methods out of them =====
/-- a private method of a class that the tables say can be made, by its rows of tables_1 -/
def lw_okq (q : MethodName × Nat) : Prop := (q.1.cls ≠ "java/lang/invoke/MethodHandle" ∧ q.1.cls ≠ "java/lang/invoke/VarHandle") ∧ Cond.instantiable q.1.cls q.2 ∈ tables_1 ∧ Cond.privateMethod q.1 ∈ tables_1 ∧ Cond.instanceMethod q.1 ∈ tables_1
theorem lw_p0 : lw_okq (⟨"GoneRed$Reader", "step", "()V"⟩, 8) := ⟨⟨by decide +kernel, by decide +kernel⟩, List.mem_of_getElem? (i := 52) (by decide +kernel), List.mem_of_getElem? (i := 296) (by decide +kernel), List.mem_of_getElem? (i := 297) (by decide +kernel)⟩
theorem lw_p1 : lw_okq (⟨"GoneRed$Reader", "byteAt", "(I)I"⟩, 8) := ⟨⟨by decide +kernel, by decide +kernel⟩, List.mem_of_getElem? (i := 52) (by decide +kernel), List.mem_of_getElem? (i := 300) (by decide +kernel), List.mem_of_getElem? (i := 301) (by decide +kernel)⟩
theorem lw_p2 : lw_okq (⟨"GoneRed$Reader", "stepWord", "()V"⟩, 8) := ⟨⟨by decide +kernel, by decide +kernel⟩, List.mem_of_getElem? (i := 52) (by decide +kernel), List.mem_of_getElem? (i := 310) (by decide +kernel), List.mem_of_getElem? (i := 311) (by decide +kernel)⟩
theorem lw_p3 : lw_okq (⟨"GoneRed$Reader", "isSpelled", "(Ljava/lang/String;)Z"⟩, 8) := ⟨⟨by decide +kernel, by decide +kernel⟩, List.mem_of_getElem? (i := 52) (by decide +kernel), List.mem_of_getElem? (i := 330) (by decide +kernel), List.mem_of_getElem? (i := 331) (by decide +kernel)⟩
theorem lw_p4 : lw_okq (⟨"GoneRed$Reader", "stepNumber", "()V"⟩, 8) := ⟨⟨by decide +kernel, by decide +kernel⟩, List.mem_of_getElem? (i := 52) (by decide +kernel), List.mem_of_getElem? (i := 339) (by decide +kernel), List.mem_of_getElem? (i := 340) (by decide +kernel)⟩
theorem lw_p5 : lw_okq (⟨"GoneRed$Reader", "expect", "(I)V"⟩, 8) := ⟨⟨by decide +kernel, by decide +kernel⟩, List.mem_of_getElem? (i := 52) (by decide +kernel), List.mem_of_getElem? (i := 349) (by decide +kernel), List.mem_of_getElem? (i := 350) (by decide +kernel)⟩
theorem lw_p6 : lw_okq (⟨"GoneRed$Reader", "fail", "()V"⟩, 8) := ⟨⟨by decide +kernel, by decide +kernel⟩, List.mem_of_getElem? (i := 52) (by decide +kernel), List.mem_of_getElem? (i := 353) (by decide +kernel), List.mem_of_getElem? (i := 354) (by decide +kernel)⟩
theorem lw_p7 : lw_okq (⟨"GoneRed$Reader", "readOr", "(I)V"⟩, 8) := ⟨⟨by decide +kernel, by decide +kernel⟩, List.mem_of_getElem? (i := 52) (by decide +kernel), List.mem_of_getElem? (i := 357) (by decide +kernel), List.mem_of_getElem? (i := 358) (by decide +kernel)⟩
theorem lw_p8 : lw_okq (⟨"GoneRed$Reader", "readAnd", "(I)V"⟩, 8) := ⟨⟨by decide +kernel, by decide +kernel⟩, List.mem_of_getElem? (i := 52) (by decide +kernel), List.mem_of_getElem? (i := 361) (by decide +kernel), List.mem_of_getElem? (i := 362) (by decide +kernel)⟩
theorem lw_p9 : lw_okq (⟨"GoneRed$Reader", "readNot", "(I)V"⟩, 8) := ⟨⟨by decide +kernel, by decide +kernel⟩, List.mem_of_getElem? (i := 52) (by decide +kernel), List.mem_of_getElem? (i := 365) (by decide +kernel), List.mem_of_getElem? (i := 366) (by decide +kernel)⟩
theorem lw_p10 : lw_okq (⟨"GoneRed$Reader", "readCompared", "(I)V"⟩, 8) := ⟨⟨by decide +kernel, by decide +kernel⟩, List.mem_of_getElem? (i := 52) (by decide +kernel), List.mem_of_getElem? (i := 369) (by decide +kernel), List.mem_of_getElem? (i := 370) (by decide +kernel)⟩
theorem lw_p11 : lw_okq (⟨"GoneRed$Reader", "readSum", "(I)V"⟩, 8) := ⟨⟨by decide +kernel, by decide +kernel⟩, List.mem_of_getElem? (i := 52) (by decide +kernel), List.mem_of_getElem? (i := 373) (by decide +kernel), List.mem_of_getElem? (i := 374) (by decide +kernel)⟩
theorem lw_p12 : lw_okq (⟨"GoneRed$Reader", "readTerm", "(I)V"⟩, 8) := ⟨⟨by decide +kernel, by decide +kernel⟩, List.mem_of_getElem? (i := 52) (by decide +kernel), List.mem_of_getElem? (i := 377) (by decide +kernel), List.mem_of_getElem? (i := 378) (by decide +kernel)⟩
theorem lw_p13 : lw_okq (⟨"GoneRed$Reader", "readOne", "(I)V"⟩, 8) := ⟨⟨by decide +kernel, by decide +kernel⟩, List.mem_of_getElem? (i := 52) (by decide +kernel), List.mem_of_getElem? (i := 381) (by decide +kernel), List.mem_of_getElem? (i := 382) (by decide +kernel)⟩
theorem lw_p14 : lw_okq (⟨"GoneRed", "playNow", "(II)V"⟩, 9) := ⟨⟨by decide +kernel, by decide +kernel⟩, List.mem_of_getElem? (i := 20) (by decide +kernel), List.mem_of_getElem? (i := 568) (by decide +kernel), List.mem_of_getElem? (i := 569) (by decide +kernel)⟩
theorem lw_p15 : lw_okq (⟨"GoneRed$Seconds", "playSecond", "(LGoneRed$Scene;II)V"⟩, 7) := ⟨⟨by decide +kernel, by decide +kernel⟩, List.mem_of_getElem? (i := 120) (by decide +kernel), List.mem_of_getElem? (i := 582) (by decide +kernel), List.mem_of_getElem? (i := 583) (by decide +kernel)⟩
def lw_privs_1 : List (MethodName × Nat) := [(⟨"GoneRed$Reader", "step", "()V"⟩, 8), (⟨"GoneRed$Reader", "byteAt", "(I)I"⟩, 8), (⟨"GoneRed$Reader", "stepWord", "()V"⟩, 8), (⟨"GoneRed$Reader", "isSpelled", "(Ljava/lang/String;)Z"⟩, 8), (⟨"GoneRed$Reader", "stepNumber", "()V"⟩, 8), (⟨"GoneRed$Reader", "expect", "(I)V"⟩, 8), (⟨"GoneRed$Reader", "fail", "()V"⟩, 8), (⟨"GoneRed$Reader", "readOr", "(I)V"⟩, 8), (⟨"GoneRed$Reader", "readAnd", "(I)V"⟩, 8), (⟨"GoneRed$Reader", "readNot", "(I)V"⟩, 8), (⟨"GoneRed$Reader", "readCompared", "(I)V"⟩, 8), (⟨"GoneRed$Reader", "readSum", "(I)V"⟩, 8), (⟨"GoneRed$Reader", "readTerm", "(I)V"⟩, 8), (⟨"GoneRed$Reader", "readOne", "(I)V"⟩, 8), (⟨"GoneRed", "playNow", "(II)V"⟩, 9), (⟨"GoneRed$Seconds", "playSecond", "(LGoneRed$Scene;II)V"⟩, 7)]
theorem lw_r1 : ∀ q ∈ lw_privs_1, lw_okq q := List.forall_mem_cons.mpr ⟨lw_p0, List.forall_mem_cons.mpr ⟨lw_p1, List.forall_mem_cons.mpr ⟨lw_p2, List.forall_mem_cons.mpr ⟨lw_p3, List.forall_mem_cons.mpr ⟨lw_p4, List.forall_mem_cons.mpr ⟨lw_p5, List.forall_mem_cons.mpr ⟨lw_p6, List.forall_mem_cons.mpr ⟨lw_p7, List.forall_mem_cons.mpr ⟨lw_p8, List.forall_mem_cons.mpr ⟨lw_p9, List.forall_mem_cons.mpr ⟨lw_p10, List.forall_mem_cons.mpr ⟨lw_p11, List.forall_mem_cons.mpr ⟨lw_p12, List.forall_mem_cons.mpr ⟨lw_p13, List.forall_mem_cons.mpr ⟨lw_p14, List.forall_mem_cons.mpr ⟨lw_p15, fun _ h => absurd h List.not_mem_nil⟩⟩⟩⟩⟩⟩⟩⟩⟩⟩⟩⟩⟩⟩⟩⟩
theorem lw_p16 : lw_okq (⟨"GoneRed$Twist", "isDoing", "(IIII)Z"⟩, 10) := ⟨⟨by decide +kernel, by decide +kernel⟩, List.mem_of_getElem? (i := 83) (by decide +kernel), List.mem_of_getElem? (i := 592) (by decide +kernel), List.mem_of_getElem? (i := 593) (by decide +kernel)⟩
theorem lw_p17 : lw_okq (⟨"GoneRed$Seconds", "lookersAt", "(LGoneRed$Scene;II)I"⟩, 7) := ⟨⟨by decide +kernel, by decide +kernel⟩, List.mem_of_getElem? (i := 120) (by decide +kernel), List.mem_of_getElem? (i := 596) (by decide +kernel), List.mem_of_getElem? (i := 597) (by decide +kernel)⟩
theorem lw_p18 : lw_okq (⟨"GoneRed", "redTold", "(II)I"⟩, 9) := ⟨⟨by decide +kernel, by decide +kernel⟩, List.mem_of_getElem? (i := 20) (by decide +kernel), List.mem_of_getElem? (i := 655) (by decide +kernel), List.mem_of_getElem? (i := 656) (by decide +kernel)⟩
theorem lw_p19 : lw_okq (⟨"GoneRed", "playAllNow", "(I)V"⟩, 9) := ⟨⟨by decide +kernel, by decide +kernel⟩, List.mem_of_getElem? (i := 20) (by decide +kernel), List.mem_of_getElem? (i := 685) (by decide +kernel), List.mem_of_getElem? (i := 686) (by decide +kernel)⟩
theorem lw_p20 : lw_okq (⟨"GoneRed", "playThought", "(II)V"⟩, 9) := ⟨⟨by decide +kernel, by decide +kernel⟩, List.mem_of_getElem? (i := 20) (by decide +kernel), List.mem_of_getElem? (i := 731) (by decide +kernel), List.mem_of_getElem? (i := 732) (by decide +kernel)⟩
theorem lw_p21 : lw_okq (⟨"GoneRed", "playStopped", "(III)V"⟩, 9) := ⟨⟨by decide +kernel, by decide +kernel⟩, List.mem_of_getElem? (i := 20) (by decide +kernel), List.mem_of_getElem? (i := 739) (by decide +kernel), List.mem_of_getElem? (i := 740) (by decide +kernel)⟩
theorem lw_p22 : lw_okq (⟨"GoneRed", "feltUnseenBy", "(II)I"⟩, 9) := ⟨⟨by decide +kernel, by decide +kernel⟩, List.mem_of_getElem? (i := 20) (by decide +kernel), List.mem_of_getElem? (i := 760) (by decide +kernel), List.mem_of_getElem? (i := 761) (by decide +kernel)⟩
theorem lw_p23 : lw_okq (⟨"GoneRed", "playAllThought", "(I)V"⟩, 9) := ⟨⟨by decide +kernel, by decide +kernel⟩, List.mem_of_getElem? (i := 20) (by decide +kernel), List.mem_of_getElem? (i := 794) (by decide +kernel), List.mem_of_getElem? (i := 795) (by decide +kernel)⟩
theorem lw_p24 : lw_okq (⟨"GoneRed", "playCaused", "(IIIII)V"⟩, 9) := ⟨⟨by decide +kernel, by decide +kernel⟩, List.mem_of_getElem? (i := 20) (by decide +kernel), List.mem_of_getElem? (i := 819) (by decide +kernel), List.mem_of_getElem? (i := 820) (by decide +kernel)⟩
theorem lw_p25 : lw_okq (⟨"GoneRed", "isRedAsked", "(III)Z"⟩, 9) := ⟨⟨by decide +kernel, by decide +kernel⟩, List.mem_of_getElem? (i := 20) (by decide +kernel), List.mem_of_getElem? (i := 827) (by decide +kernel), List.mem_of_getElem? (i := 828) (by decide +kernel)⟩
theorem lw_p26 : lw_okq (⟨"GoneRed", "filmRefusal", "(I)I"⟩, 9) := ⟨⟨by decide +kernel, by decide +kernel⟩, List.mem_of_getElem? (i := 20) (by decide +kernel), List.mem_of_getElem? (i := 844) (by decide +kernel), List.mem_of_getElem? (i := 845) (by decide +kernel)⟩
theorem lw_p27 : lw_okq (⟨"GoneRed", "filmLength", "(I)I"⟩, 9) := ⟨⟨by decide +kernel, by decide +kernel⟩, List.mem_of_getElem? (i := 20) (by decide +kernel), List.mem_of_getElem? (i := 857) (by decide +kernel), List.mem_of_getElem? (i := 858) (by decide +kernel)⟩
theorem lw_p28 : lw_okq (⟨"GoneRed", "firstOther", "(II)I"⟩, 9) := ⟨⟨by decide +kernel, by decide +kernel⟩, List.mem_of_getElem? (i := 20) (by decide +kernel), List.mem_of_getElem? (i := 861) (by decide +kernel), List.mem_of_getElem? (i := 862) (by decide +kernel)⟩
theorem lw_p29 : lw_okq (⟨"GoneRedModel", "next", "()V"⟩, 49) := ⟨⟨by decide +kernel, by decide +kernel⟩, List.mem_of_getElem? (i := 957) (by decide +kernel), List.mem_of_getElem? (i := 967) (by decide +kernel), List.mem_of_getElem? (i := 968) (by decide +kernel)⟩
theorem lw_p30 : lw_okq (⟨"GoneRedModel", "wordFrom", "(II)I"⟩, 49) := ⟨⟨by decide +kernel, by decide +kernel⟩, List.mem_of_getElem? (i := 957) (by decide +kernel), List.mem_of_getElem? (i := 974) (by decide +kernel), List.mem_of_getElem? (i := 975) (by decide +kernel)⟩
theorem lw_p31 : lw_okq (⟨"GoneRedModel", "eRead", "()Z"⟩, 49) := ⟨⟨by decide +kernel, by decide +kernel⟩, List.mem_of_getElem? (i := 957) (by decide +kernel), List.mem_of_getElem? (i := 978) (by decide +kernel), List.mem_of_getElem? (i := 979) (by decide +kernel)⟩
def lw_privs_2 : List (MethodName × Nat) := [(⟨"GoneRed$Twist", "isDoing", "(IIII)Z"⟩, 10), (⟨"GoneRed$Seconds", "lookersAt", "(LGoneRed$Scene;II)I"⟩, 7), (⟨"GoneRed", "redTold", "(II)I"⟩, 9), (⟨"GoneRed", "playAllNow", "(I)V"⟩, 9), (⟨"GoneRed", "playThought", "(II)V"⟩, 9), (⟨"GoneRed", "playStopped", "(III)V"⟩, 9), (⟨"GoneRed", "feltUnseenBy", "(II)I"⟩, 9), (⟨"GoneRed", "playAllThought", "(I)V"⟩, 9), (⟨"GoneRed", "playCaused", "(IIIII)V"⟩, 9), (⟨"GoneRed", "isRedAsked", "(III)Z"⟩, 9), (⟨"GoneRed", "filmRefusal", "(I)I"⟩, 9), (⟨"GoneRed", "filmLength", "(I)I"⟩, 9), (⟨"GoneRed", "firstOther", "(II)I"⟩, 9), (⟨"GoneRedModel", "next", "()V"⟩, 49), (⟨"GoneRedModel", "wordFrom", "(II)I"⟩, 49), (⟨"GoneRedModel", "eRead", "()Z"⟩, 49)]
theorem lw_r2 : ∀ q ∈ lw_privs_2, lw_okq q := List.forall_mem_cons.mpr ⟨lw_p16, List.forall_mem_cons.mpr ⟨lw_p17, List.forall_mem_cons.mpr ⟨lw_p18, List.forall_mem_cons.mpr ⟨lw_p19, List.forall_mem_cons.mpr ⟨lw_p20, List.forall_mem_cons.mpr ⟨lw_p21, List.forall_mem_cons.mpr ⟨lw_p22, List.forall_mem_cons.mpr ⟨lw_p23, List.forall_mem_cons.mpr ⟨lw_p24, List.forall_mem_cons.mpr ⟨lw_p25, List.forall_mem_cons.mpr ⟨lw_p26, List.forall_mem_cons.mpr ⟨lw_p27, List.forall_mem_cons.mpr ⟨lw_p28, List.forall_mem_cons.mpr ⟨lw_p29, List.forall_mem_cons.mpr ⟨lw_p30, List.forall_mem_cons.mpr ⟨lw_p31, fun _ h => absurd h List.not_mem_nil⟩⟩⟩⟩⟩⟩⟩⟩⟩⟩⟩⟩⟩⟩⟩⟩
theorem lw_p32 : lw_okq (⟨"GoneRedModel", "puts", "(I)V"⟩, 49) := ⟨⟨by decide +kernel, by decide +kernel⟩, List.mem_of_getElem? (i := 957) (by decide +kernel), List.mem_of_getElem? (i := 983) (by decide +kernel), List.mem_of_getElem? (i := 984) (by decide +kernel)⟩
theorem lw_p33 : lw_okq (⟨"GoneRedModel", "unwinds", "(I)V"⟩, 49) := ⟨⟨by decide +kernel, by decide +kernel⟩, List.mem_of_getElem? (i := 957) (by decide +kernel), List.mem_of_getElem? (i := 987) (by decide +kernel), List.mem_of_getElem? (i := 988) (by decide +kernel)⟩
theorem lw_p34 : lw_okq (⟨"GoneRedModel", "opensOne", "(I)Z"⟩, 49) := ⟨⟨by decide +kernel, by decide +kernel⟩, List.mem_of_getElem? (i := 957) (by decide +kernel), List.mem_of_getElem? (i := 994) (by decide +kernel), List.mem_of_getElem? (i := 995) (by decide +kernel)⟩
theorem lw_p35 : lw_okq (⟨"GoneRedModel", "holds", "(I)V"⟩, 49) := ⟨⟨by decide +kernel, by decide +kernel⟩, List.mem_of_getElem? (i := 957) (by decide +kernel), List.mem_of_getElem? (i := 998) (by decide +kernel), List.mem_of_getElem? (i := 999) (by decide +kernel)⟩
theorem lw_p36 : lw_okq (⟨"GoneRedModel", "signOf", "()I"⟩, 49) := ⟨⟨by decide +kernel, by decide +kernel⟩, List.mem_of_getElem? (i := 957) (by decide +kernel), List.mem_of_getElem? (i := 1002) (by decide +kernel), List.mem_of_getElem? (i := 1003) (by decide +kernel)⟩
theorem lw_p37 : lw_okq (⟨"GoneRedModel", "between", "(I)Z"⟩, 49) := ⟨⟨by decide +kernel, by decide +kernel⟩, List.mem_of_getElem? (i := 957) (by decide +kernel), List.mem_of_getElem? (i := 1006) (by decide +kernel), List.mem_of_getElem? (i := 1007) (by decide +kernel)⟩
theorem lw_p38 : lw_okq (⟨"GoneRedModel", "asksOf", "(IIIIIII)I"⟩, 49) := ⟨⟨by decide +kernel, by decide +kernel⟩, List.mem_of_getElem? (i := 957) (by decide +kernel), List.mem_of_getElem? (i := 1181) (by decide +kernel), List.mem_of_getElem? (i := 1182) (by decide +kernel)⟩
theorem lw_p39 : lw_okq (⟨"GoneRedModel", "says", "(I)I"⟩, 49) := ⟨⟨by decide +kernel, by decide +kernel⟩, List.mem_of_getElem? (i := 957) (by decide +kernel), List.mem_of_getElem? (i := 1185) (by decide +kernel), List.mem_of_getElem? (i := 1186) (by decide +kernel)⟩
theorem lw_p40 : lw_okq (⟨"GoneRedModel", "whoSits", "(I)I"⟩, 49) := ⟨⟨by decide +kernel, by decide +kernel⟩, List.mem_of_getElem? (i := 957) (by decide +kernel), List.mem_of_getElem? (i := 1202) (by decide +kernel), List.mem_of_getElem? (i := 1203) (by decide +kernel)⟩
theorem lw_p41 : lw_okq (⟨"GoneRedModel", "isFace", "(I)Z"⟩, 49) := ⟨⟨by decide +kernel, by decide +kernel⟩, List.mem_of_getElem? (i := 957) (by decide +kernel), List.mem_of_getElem? (i := 1210) (by decide +kernel), List.mem_of_getElem? (i := 1211) (by decide +kernel)⟩
theorem lw_p42 : lw_okq (⟨"GoneRedModel", "sits", "(II)I"⟩, 49) := ⟨⟨by decide +kernel, by decide +kernel⟩, List.mem_of_getElem? (i := 957) (by decide +kernel), List.mem_of_getElem? (i := 1218) (by decide +kernel), List.mem_of_getElem? (i := 1219) (by decide +kernel)⟩
theorem lw_p43 : lw_okq (⟨"GoneRedModel", "redFrom", "(I)I"⟩, 49) := ⟨⟨by decide +kernel, by decide +kernel⟩, List.mem_of_getElem? (i := 957) (by decide +kernel), List.mem_of_getElem? (i := 1230) (by decide +kernel), List.mem_of_getElem? (i := 1231) (by decide +kernel)⟩
theorem lw_p44 : lw_okq (⟨"GoneRedModel", "runs", "(I)V"⟩, 49) := ⟨⟨by decide +kernel, by decide +kernel⟩, List.mem_of_getElem? (i := 957) (by decide +kernel), List.mem_of_getElem? (i := 1250) (by decide +kernel), List.mem_of_getElem? (i := 1251) (by decide +kernel)⟩
theorem lw_p45 : lw_okq (⟨"GoneRedModel", "seconds", "(I)V"⟩, 49) := ⟨⟨by decide +kernel, by decide +kernel⟩, List.mem_of_getElem? (i := 957) (by decide +kernel), List.mem_of_getElem? (i := 1254) (by decide +kernel), List.mem_of_getElem? (i := 1255) (by decide +kernel)⟩
theorem lw_p46 : lw_okq (⟨"GoneRedModel", "howManyLook", "(II)I"⟩, 49) := ⟨⟨by decide +kernel, by decide +kernel⟩, List.mem_of_getElem? (i := 957) (by decide +kernel), List.mem_of_getElem? (i := 1258) (by decide +kernel), List.mem_of_getElem? (i := 1259) (by decide +kernel)⟩
theorem lw_p47 : lw_okq (⟨"GoneRedModel", "couldLook", "(III)Z"⟩, 49) := ⟨⟨by decide +kernel, by decide +kernel⟩, List.mem_of_getElem? (i := 957) (by decide +kernel), List.mem_of_getElem? (i := 1262) (by decide +kernel), List.mem_of_getElem? (i := 1263) (by decide +kernel)⟩
def lw_privs_3 : List (MethodName × Nat) := [(⟨"GoneRedModel", "puts", "(I)V"⟩, 49), (⟨"GoneRedModel", "unwinds", "(I)V"⟩, 49), (⟨"GoneRedModel", "opensOne", "(I)Z"⟩, 49), (⟨"GoneRedModel", "holds", "(I)V"⟩, 49), (⟨"GoneRedModel", "signOf", "()I"⟩, 49), (⟨"GoneRedModel", "between", "(I)Z"⟩, 49), (⟨"GoneRedModel", "asksOf", "(IIIIIII)I"⟩, 49), (⟨"GoneRedModel", "says", "(I)I"⟩, 49), (⟨"GoneRedModel", "whoSits", "(I)I"⟩, 49), (⟨"GoneRedModel", "isFace", "(I)Z"⟩, 49), (⟨"GoneRedModel", "sits", "(II)I"⟩, 49), (⟨"GoneRedModel", "redFrom", "(I)I"⟩, 49), (⟨"GoneRedModel", "runs", "(I)V"⟩, 49), (⟨"GoneRedModel", "seconds", "(I)V"⟩, 49), (⟨"GoneRedModel", "howManyLook", "(II)I"⟩, 49), (⟨"GoneRedModel", "couldLook", "(III)Z"⟩, 49)]
theorem lw_r3 : ∀ q ∈ lw_privs_3, lw_okq q := List.forall_mem_cons.mpr ⟨lw_p32, List.forall_mem_cons.mpr ⟨lw_p33, List.forall_mem_cons.mpr ⟨lw_p34, List.forall_mem_cons.mpr ⟨lw_p35, List.forall_mem_cons.mpr ⟨lw_p36, List.forall_mem_cons.mpr ⟨lw_p37, List.forall_mem_cons.mpr ⟨lw_p38, List.forall_mem_cons.mpr ⟨lw_p39, List.forall_mem_cons.mpr ⟨lw_p40, List.forall_mem_cons.mpr ⟨lw_p41, List.forall_mem_cons.mpr ⟨lw_p42, List.forall_mem_cons.mpr ⟨lw_p43, List.forall_mem_cons.mpr ⟨lw_p44, List.forall_mem_cons.mpr ⟨lw_p45, List.forall_mem_cons.mpr ⟨lw_p46, List.forall_mem_cons.mpr ⟨lw_p47, fun _ h => absurd h List.not_mem_nil⟩⟩⟩⟩⟩⟩⟩⟩⟩⟩⟩⟩⟩⟩⟩⟩
theorem lw_p48 : lw_okq (⟨"GoneRedModel", "isStopping", "(IIII)Z"⟩, 49) := ⟨⟨by decide +kernel, by decide +kernel⟩, List.mem_of_getElem? (i := 957) (by decide +kernel), List.mem_of_getElem? (i := 1266) (by decide +kernel), List.mem_of_getElem? (i := 1267) (by decide +kernel)⟩
theorem lw_p49 : lw_okq (⟨"GoneRedModel", "isSeen", "(I)I"⟩, 49) := ⟨⟨by decide +kernel, by decide +kernel⟩, List.mem_of_getElem? (i := 957) (by decide +kernel), List.mem_of_getElem? (i := 1270) (by decide +kernel), List.mem_of_getElem? (i := 1271) (by decide +kernel)⟩
theorem lw_p50 : lw_okq (⟨"GoneRedModel", "warmsBy", "(II)I"⟩, 49) := ⟨⟨by decide +kernel, by decide +kernel⟩, List.mem_of_getElem? (i := 957) (by decide +kernel), List.mem_of_getElem? (i := 1274) (by decide +kernel), List.mem_of_getElem? (i := 1275) (by decide +kernel)⟩
theorem lw_p51 : lw_okq (⟨"GoneRedModel", "causedTo", "(II)I"⟩, 49) := ⟨⟨by decide +kernel, by decide +kernel⟩, List.mem_of_getElem? (i := 957) (by decide +kernel), List.mem_of_getElem? (i := 1278) (by decide +kernel), List.mem_of_getElem? (i := 1279) (by decide +kernel)⟩
theorem lw_p52 : lw_okq (⟨"GoneRedModel", "coolsBy", "(II)I"⟩, 49) := ⟨⟨by decide +kernel, by decide +kernel⟩, List.mem_of_getElem? (i := 957) (by decide +kernel), List.mem_of_getElem? (i := 1282) (by decide +kernel), List.mem_of_getElem? (i := 1283) (by decide +kernel)⟩
theorem lw_p53 : lw_okq (⟨"GoneRedModel", "isRedNow", "(I)Z"⟩, 49) := ⟨⟨by decide +kernel, by decide +kernel⟩, List.mem_of_getElem? (i := 957) (by decide +kernel), List.mem_of_getElem? (i := 1286) (by decide +kernel), List.mem_of_getElem? (i := 1287) (by decide +kernel)⟩
theorem lw_p54 : lw_okq (⟨"GoneRedModel", "redTold", "(II)I"⟩, 49) := ⟨⟨by decide +kernel, by decide +kernel⟩, List.mem_of_getElem? (i := 957) (by decide +kernel), List.mem_of_getElem? (i := 1294) (by decide +kernel), List.mem_of_getElem? (i := 1295) (by decide +kernel)⟩
theorem lw_p55 : lw_okq (⟨"GoneRedModel", "mostWarm", "(I)I"⟩, 49) := ⟨⟨by decide +kernel, by decide +kernel⟩, List.mem_of_getElem? (i := 957) (by decide +kernel), List.mem_of_getElem? (i := 1298) (by decide +kernel), List.mem_of_getElem? (i := 1299) (by decide +kernel)⟩
theorem lw_p56 : lw_okq (⟨"GoneRedModel", "redSeconds", "(I)I"⟩, 49) := ⟨⟨by decide +kernel, by decide +kernel⟩, List.mem_of_getElem? (i := 957) (by decide +kernel), List.mem_of_getElem? (i := 1302) (by decide +kernel), List.mem_of_getElem? (i := 1303) (by decide +kernel)⟩
theorem lw_p57 : lw_okq (⟨"GoneRedModel", "wasRed", "(II)Z"⟩, 49) := ⟨⟨by decide +kernel, by decide +kernel⟩, List.mem_of_getElem? (i := 957) (by decide +kernel), List.mem_of_getElem? (i := 1306) (by decide +kernel), List.mem_of_getElem? (i := 1307) (by decide +kernel)⟩
theorem lw_p58 : lw_okq (⟨"GoneRedModel", "firstRed", "(I)I"⟩, 49) := ⟨⟨by decide +kernel, by decide +kernel⟩, List.mem_of_getElem? (i := 957) (by decide +kernel), List.mem_of_getElem? (i := 1310) (by decide +kernel), List.mem_of_getElem? (i := 1311) (by decide +kernel)⟩
theorem lw_p59 : lw_okq (⟨"GoneRedModel", "lastRed", "(I)I"⟩, 49) := ⟨⟨by decide +kernel, by decide +kernel⟩, List.mem_of_getElem? (i := 957) (by decide +kernel), List.mem_of_getElem? (i := 1314) (by decide +kernel), List.mem_of_getElem? (i := 1315) (by decide +kernel)⟩
theorem lw_p60 : lw_okq (⟨"GoneRedModel", "feltBy", "(I)I"⟩, 49) := ⟨⟨by decide +kernel, by decide +kernel⟩, List.mem_of_getElem? (i := 957) (by decide +kernel), List.mem_of_getElem? (i := 1318) (by decide +kernel), List.mem_of_getElem? (i := 1319) (by decide +kernel)⟩
theorem lw_p61 : lw_okq (⟨"GoneRedModel", "redNow", "()I"⟩, 49) := ⟨⟨by decide +kernel, by decide +kernel⟩, List.mem_of_getElem? (i := 957) (by decide +kernel), List.mem_of_getElem? (i := 1326) (by decide +kernel), List.mem_of_getElem? (i := 1327) (by decide +kernel)⟩
theorem lw_p62 : lw_okq (⟨"GoneRedModel", "diesNow", "(I)I"⟩, 49) := ⟨⟨by decide +kernel, by decide +kernel⟩, List.mem_of_getElem? (i := 957) (by decide +kernel), List.mem_of_getElem? (i := 1341) (by decide +kernel), List.mem_of_getElem? (i := 1342) (by decide +kernel)⟩
theorem lw_p63 : lw_okq (⟨"GoneRedModel", "stopsBy", "(III)V"⟩, 49) := ⟨⟨by decide +kernel, by decide +kernel⟩, List.mem_of_getElem? (i := 957) (by decide +kernel), List.mem_of_getElem? (i := 1353) (by decide +kernel), List.mem_of_getElem? (i := 1354) (by decide +kernel)⟩
def lw_privs_4 : List (MethodName × Nat) := [(⟨"GoneRedModel", "isStopping", "(IIII)Z"⟩, 49), (⟨"GoneRedModel", "isSeen", "(I)I"⟩, 49), (⟨"GoneRedModel", "warmsBy", "(II)I"⟩, 49), (⟨"GoneRedModel", "causedTo", "(II)I"⟩, 49), (⟨"GoneRedModel", "coolsBy", "(II)I"⟩, 49), (⟨"GoneRedModel", "isRedNow", "(I)Z"⟩, 49), (⟨"GoneRedModel", "redTold", "(II)I"⟩, 49), (⟨"GoneRedModel", "mostWarm", "(I)I"⟩, 49), (⟨"GoneRedModel", "redSeconds", "(I)I"⟩, 49), (⟨"GoneRedModel", "wasRed", "(II)Z"⟩, 49), (⟨"GoneRedModel", "firstRed", "(I)I"⟩, 49), (⟨"GoneRedModel", "lastRed", "(I)I"⟩, 49), (⟨"GoneRedModel", "feltBy", "(I)I"⟩, 49), (⟨"GoneRedModel", "redNow", "()I"⟩, 49), (⟨"GoneRedModel", "diesNow", "(I)I"⟩, 49), (⟨"GoneRedModel", "stopsBy", "(III)V"⟩, 49)]
theorem lw_r4 : ∀ q ∈ lw_privs_4, lw_okq q := List.forall_mem_cons.mpr ⟨lw_p48, List.forall_mem_cons.mpr ⟨lw_p49, List.forall_mem_cons.mpr ⟨lw_p50, List.forall_mem_cons.mpr ⟨lw_p51, List.forall_mem_cons.mpr ⟨lw_p52, List.forall_mem_cons.mpr ⟨lw_p53, List.forall_mem_cons.mpr ⟨lw_p54, List.forall_mem_cons.mpr ⟨lw_p55, List.forall_mem_cons.mpr ⟨lw_p56, List.forall_mem_cons.mpr ⟨lw_p57, List.forall_mem_cons.mpr ⟨lw_p58, List.forall_mem_cons.mpr ⟨lw_p59, List.forall_mem_cons.mpr ⟨lw_p60, List.forall_mem_cons.mpr ⟨lw_p61, List.forall_mem_cons.mpr ⟨lw_p62, List.forall_mem_cons.mpr ⟨lw_p63, fun _ h => absurd h List.not_mem_nil⟩⟩⟩⟩⟩⟩⟩⟩⟩⟩⟩⟩⟩⟩⟩⟩
theorem lw_p64 : lw_okq (⟨"GoneRedModel", "addsBy", "(II)I"⟩, 49) := ⟨⟨by decide +kernel, by decide +kernel⟩, List.mem_of_getElem? (i := 957) (by decide +kernel), List.mem_of_getElem? (i := 1369) (by decide +kernel), List.mem_of_getElem? (i := 1370) (by decide +kernel)⟩
theorem lw_p65 : lw_okq (⟨"GoneRedModel", "feltByOthers", "(I)I"⟩, 49) := ⟨⟨by decide +kernel, by decide +kernel⟩, List.mem_of_getElem? (i := 957) (by decide +kernel), List.mem_of_getElem? (i := 1382) (by decide +kernel), List.mem_of_getElem? (i := 1383) (by decide +kernel)⟩
theorem lw_p66 : lw_okq (⟨"GoneRedModel", "keepsSeats", "()V"⟩, 49) := ⟨⟨by decide +kernel, by decide +kernel⟩, List.mem_of_getElem? (i := 957) (by decide +kernel), List.mem_of_getElem? (i := 1390) (by decide +kernel), List.mem_of_getElem? (i := 1391) (by decide +kernel)⟩
theorem lw_p67 : lw_okq (⟨"GoneRedModel", "laysSeats", "()V"⟩, 49) := ⟨⟨by decide +kernel, by decide +kernel⟩, List.mem_of_getElem? (i := 957) (by decide +kernel), List.mem_of_getElem? (i := 1394) (by decide +kernel), List.mem_of_getElem? (i := 1395) (by decide +kernel)⟩
theorem lw_p68 : lw_okq (⟨"GoneRedModel", "redOfAll", "()I"⟩, 49) := ⟨⟨by decide +kernel, by decide +kernel⟩, List.mem_of_getElem? (i := 957) (by decide +kernel), List.mem_of_getElem? (i := 1402) (by decide +kernel), List.mem_of_getElem? (i := 1403) (by decide +kernel)⟩
theorem lw_p69 : lw_okq (⟨"GoneRedModel", "everRed", "()I"⟩, 49) := ⟨⟨by decide +kernel, by decide +kernel⟩, List.mem_of_getElem? (i := 957) (by decide +kernel), List.mem_of_getElem? (i := 1414) (by decide +kernel), List.mem_of_getElem? (i := 1415) (by decide +kernel)⟩
theorem lw_p70 : lw_okq (⟨"GoneRedModel", "isRedAsked", "(III)Z"⟩, 49) := ⟨⟨by decide +kernel, by decide +kernel⟩, List.mem_of_getElem? (i := 957) (by decide +kernel), List.mem_of_getElem? (i := 1426) (by decide +kernel), List.mem_of_getElem? (i := 1427) (by decide +kernel)⟩
theorem lw_p71 : lw_okq (⟨"GoneRedModel", "toldWrong", "(II)I"⟩, 49) := ⟨⟨by decide +kernel, by decide +kernel⟩, List.mem_of_getElem? (i := 957) (by decide +kernel), List.mem_of_getElem? (i := 1442) (by decide +kernel), List.mem_of_getElem? (i := 1443) (by decide +kernel)⟩
theorem lw_p72 : lw_okq (⟨"GoneRedModel", "sheetWrong", "(I)I"⟩, 49) := ⟨⟨by decide +kernel, by decide +kernel⟩, List.mem_of_getElem? (i := 957) (by decide +kernel), List.mem_of_getElem? (i := 1446) (by decide +kernel), List.mem_of_getElem? (i := 1447) (by decide +kernel)⟩
theorem lw_p73 : lw_okq (⟨"GoneRedModel", "unlike", "(II)I"⟩, 49) := ⟨⟨by decide +kernel, by decide +kernel⟩, List.mem_of_getElem? (i := 957) (by decide +kernel), List.mem_of_getElem? (i := 1450) (by decide +kernel), List.mem_of_getElem? (i := 1451) (by decide +kernel)⟩
theorem lw_p74 : lw_okq (⟨"GoneRedModel", "redBy", "(II)I"⟩, 49) := ⟨⟨by decide +kernel, by decide +kernel⟩, List.mem_of_getElem? (i := 957) (by decide +kernel), List.mem_of_getElem? (i := 1483) (by decide +kernel), List.mem_of_getElem? (i := 1484) (by decide +kernel)⟩
def lw_privs_5 : List (MethodName × Nat) := [(⟨"GoneRedModel", "addsBy", "(II)I"⟩, 49), (⟨"GoneRedModel", "feltByOthers", "(I)I"⟩, 49), (⟨"GoneRedModel", "keepsSeats", "()V"⟩, 49), (⟨"GoneRedModel", "laysSeats", "()V"⟩, 49), (⟨"GoneRedModel", "redOfAll", "()I"⟩, 49), (⟨"GoneRedModel", "everRed", "()I"⟩, 49), (⟨"GoneRedModel", "isRedAsked", "(III)Z"⟩, 49), (⟨"GoneRedModel", "toldWrong", "(II)I"⟩, 49), (⟨"GoneRedModel", "sheetWrong", "(I)I"⟩, 49), (⟨"GoneRedModel", "unlike", "(II)I"⟩, 49), (⟨"GoneRedModel", "redBy", "(II)I"⟩, 49)]
theorem lw_r5 : ∀ q ∈ lw_privs_5, lw_okq q := List.forall_mem_cons.mpr ⟨lw_p64, List.forall_mem_cons.mpr ⟨lw_p65, List.forall_mem_cons.mpr ⟨lw_p66, List.forall_mem_cons.mpr ⟨lw_p67, List.forall_mem_cons.mpr ⟨lw_p68, List.forall_mem_cons.mpr ⟨lw_p69, List.forall_mem_cons.mpr ⟨lw_p70, List.forall_mem_cons.mpr ⟨lw_p71, List.forall_mem_cons.mpr ⟨lw_p72, List.forall_mem_cons.mpr ⟨lw_p73, List.forall_mem_cons.mpr ⟨lw_p74, fun _ h => absurd h List.not_mem_nil⟩⟩⟩⟩⟩⟩⟩⟩⟩⟩⟩
def lw_privs : List (MethodName × Nat) := lw_privs_1 ++ (lw_privs_2 ++ (lw_privs_3 ++ (lw_privs_4 ++ (lw_privs_5))))
def lw_tbl : List Cond := k2_sels lw_privs ++ tables_1
theorem lw_privs_ok : ∀ q ∈ lw_privs, lw_okq q := by
  show ∀ q ∈ lw_privs_1 ++ (lw_privs_2 ++ (lw_privs_3 ++ (lw_privs_4 ++ (lw_privs_5)))), lw_okq q
  exact List.forall_mem_append.mpr ⟨lw_r1, List.forall_mem_append.mpr ⟨lw_r2, List.forall_mem_append.mpr ⟨lw_r3, List.forall_mem_append.mpr ⟨lw_r4, lw_r5⟩⟩⟩⟩

-- names, out of the printed text of the program itself
def RX0 : String := "GoneRed$Kind"
def TX0 : u_T := fun k => match k with
  | _ => ("", "", "", false)
def tyX0 : Nat → FieldType := fun k => match k with
  | _ => .int
abbrev wsX00 : List Cond := u_ws RX0 TX0 0
theorem nmX0 : ∀ a, a < 0 → ∀ b, b < 0 → a ≠ b → (TX0 a).2.1 ≠ (TX0 b).2.1 := by decide +kernel
theorem tyX0_ok : ∀ k, k < 0 → parseFieldDescriptor (TX0 k).2.2.1 = some (tyX0 k) := by decide +kernel
abbrev cX0_isA : ByteArray := prog_2_method_2_code
def yX0_isA : MethodName := ⟨RX0, "isA", "(II)Z"⟩
abbrev cX0_warms : ByteArray := prog_2_method_3_code
def yX0_warms : MethodName := ⟨RX0, "warms", "(IIIZ)I"⟩
abbrev cX0_cools : ByteArray := prog_2_method_4_code
def yX0_cools : MethodName := ⟨RX0, "cools", "(IIII)I"⟩
abbrev cX0_redFrom : ByteArray := prog_2_method_5_code
def yX0_redFrom : MethodName := ⟨RX0, "redFrom", "(III)I"⟩
def RX1 : String := "GoneRed$Names"
def TX1 : u_T := fun k => match k with
  | _ => ("GoneRed$Names", "values", "[I", true)
def tyX1 : Nat → FieldType := fun k => match k with
  | _ => .array .int
abbrev wsX10 : List Cond := u_ws RX1 TX1 1
theorem nmX1 : ∀ a, a < 1 → ∀ b, b < 1 → a ≠ b → (TX1 a).2.1 ≠ (TX1 b).2.1 := by decide +kernel
theorem tyX1_ok : ∀ k, k < 1 → parseFieldDescriptor (TX1 k).2.2.1 = some (tyX1 k) := by decide +kernel
abbrev cX1_init : ByteArray := prog_3_method_1_code
def yX1_init : MethodName := ⟨RX1, "<init>", "()V"⟩
abbrev cX1_tell : ByteArray := prog_3_method_2_code
def yX1_tell : MethodName := ⟨RX1, "tell", "(IIII)V"⟩
abbrev cX1_tellLooks : ByteArray := prog_3_method_3_code
def yX1_tellLooks : MethodName := ⟨RX1, "tellLooks", "(II)V"⟩
def RX2 : String := "GoneRed$Reader"
def TX2 : u_T := fun k => match k with
  | 0 => ("GoneRed$Reader", "texts", "LGoneRed$Texts;", true)
  | 1 => ("GoneRed$Reader", "bytes", "[I", true)
  | 2 => ("GoneRed$Reader", "size", "I", false)
  | 3 => ("GoneRed$Reader", "token", "I", false)
  | 4 => ("GoneRed$Reader", "number", "I", false)
  | 5 => ("GoneRed$Reader", "begin", "I", false)
  | 6 => ("GoneRed$Reader", "behind", "I", false)
  | _ => ("GoneRed$Reader", "fault", "I", false)
def tyX2 : Nat → FieldType := fun k => match k with
  | 0 => .object "GoneRed$Texts"
  | 1 => .array .int
  | 2 => .int
  | 3 => .int
  | 4 => .int
  | 5 => .int
  | 6 => .int
  | _ => .int
abbrev wsX20 : List Cond := u_ws RX2 TX2 8
theorem nmX2 : ∀ a, a < 8 → ∀ b, b < 8 → a ≠ b → (TX2 a).2.1 ≠ (TX2 b).2.1 := by decide +kernel
theorem tyX2_ok : ∀ k, k < 8 → parseFieldDescriptor (TX2 k).2.2.1 = some (tyX2 k) := by decide +kernel
abbrev cX2_init : ByteArray := prog_4_method_1_code
def yX2_init : MethodName := ⟨RX2, "<init>", "(LGoneRed$Texts;)V"⟩
abbrev cX2_taped : ByteArray := prog_4_method_2_code
def yX2_taped : MethodName := ⟨RX2, "taped", "()I"⟩
abbrev cX2_tape : ByteArray := prog_4_method_3_code
def yX2_tape : MethodName := ⟨RX2, "tape", "(I)V"⟩
abbrev cX2_readTape : ByteArray := prog_4_method_4_code
def yX2_readTape : MethodName := ⟨RX2, "readTape", "()I"⟩
abbrev cX2_readOr : ByteArray := prog_4_method_5_code
def yX2_readOr : MethodName := ⟨RX2, "readOr", "(I)V"⟩
abbrev cX2_readAnd : ByteArray := prog_4_method_6_code
def yX2_readAnd : MethodName := ⟨RX2, "readAnd", "(I)V"⟩
abbrev cX2_readNot : ByteArray := prog_4_method_7_code
def yX2_readNot : MethodName := ⟨RX2, "readNot", "(I)V"⟩
abbrev cX2_readCompared : ByteArray := prog_4_method_8_code
def yX2_readCompared : MethodName := ⟨RX2, "readCompared", "(I)V"⟩
abbrev cX2_readSum : ByteArray := prog_4_method_9_code
def yX2_readSum : MethodName := ⟨RX2, "readSum", "(I)V"⟩
abbrev cX2_readTerm : ByteArray := prog_4_method_10_code
def yX2_readTerm : MethodName := ⟨RX2, "readTerm", "(I)V"⟩
abbrev cX2_readOne : ByteArray := prog_4_method_11_code
def yX2_readOne : MethodName := ⟨RX2, "readOne", "(I)V"⟩
abbrev cX2_expect : ByteArray := prog_4_method_12_code
def yX2_expect : MethodName := ⟨RX2, "expect", "(I)V"⟩
abbrev cX2_fail : ByteArray := prog_4_method_13_code
def yX2_fail : MethodName := ⟨RX2, "fail", "()V"⟩
abbrev cX2_step : ByteArray := prog_4_method_14_code
def yX2_step : MethodName := ⟨RX2, "step", "()V"⟩
abbrev cX2_byteAt : ByteArray := prog_4_method_15_code
def yX2_byteAt : MethodName := ⟨RX2, "byteAt", "(I)I"⟩
abbrev cX2_stepWord : ByteArray := prog_4_method_16_code
def yX2_stepWord : MethodName := ⟨RX2, "stepWord", "()V"⟩
abbrev cX2_isSpelled : ByteArray := prog_4_method_17_code
def yX2_isSpelled : MethodName := ⟨RX2, "isSpelled", "(Ljava/lang/String;)Z"⟩
abbrev cX2_stepNumber : ByteArray := prog_4_method_18_code
def yX2_stepNumber : MethodName := ⟨RX2, "stepNumber", "()V"⟩
def RX3 : String := "GoneRed$Scene"
def TX3 : u_T := fun k => match k with
  | 0 => ("GoneRed$Scene", "kind", "[I", true)
  | 1 => ("GoneRed$Scene", "more", "[I", true)
  | 2 => ("GoneRed$Scene", "warmth", "[I", true)
  | 3 => ("GoneRed$Scene", "seat", "[I", true)
  | 4 => ("GoneRed$Scene", "light", "[I", true)
  | 5 => ("GoneRed$Scene", "causeSecond", "[I", true)
  | 6 => ("GoneRed$Scene", "causeFace", "[I", true)
  | 7 => ("GoneRed$Scene", "causeMuch", "[I", true)
  | 8 => ("GoneRed$Scene", "faces", "I", false)
  | 9 => ("GoneRed$Scene", "causes", "I", false)
  | _ => ("GoneRed$Scene", "law", "I", false)
def tyX3 : Nat → FieldType := fun k => match k with
  | 0 => .array .int
  | 1 => .array .int
  | 2 => .array .int
  | 3 => .array .int
  | 4 => .array .int
  | 5 => .array .int
  | 6 => .array .int
  | 7 => .array .int
  | 8 => .int
  | 9 => .int
  | _ => .int
abbrev wsX30 : List Cond := u_ws RX3 TX3 11
theorem nmX3 : ∀ a, a < 11 → ∀ b, b < 11 → a ≠ b → (TX3 a).2.1 ≠ (TX3 b).2.1 := by decide +kernel
theorem tyX3_ok : ∀ k, k < 11 → parseFieldDescriptor (TX3 k).2.2.1 = some (tyX3 k) := by decide +kernel
abbrev cX3_init : ByteArray := prog_5_method_1_code
def yX3_init : MethodName := ⟨RX3, "<init>", "()V"⟩
abbrev cX3_become : ByteArray := prog_5_method_2_code
def yX3_become : MethodName := ⟨RX3, "become", "(LGoneRed$Scene;)V"⟩
abbrev cX3_has : ByteArray := prog_5_method_3_code
def yX3_has : MethodName := ⟨RX3, "has", "(I)Z"⟩
abbrev cX3_come : ByteArray := prog_5_method_4_code
def yX3_come : MethodName := ⟨RX3, "come", "(IIII)I"⟩
abbrev cX3_sitterOf : ByteArray := prog_5_method_5_code
def yX3_sitterOf : MethodName := ⟨RX3, "sitterOf", "(I)I"⟩
abbrev cX3_move : ByteArray := prog_5_method_6_code
def yX3_move : MethodName := ⟨RX3, "move", "(II)V"⟩
abbrev cX3_lightOf : ByteArray := prog_5_method_7_code
def yX3_lightOf : MethodName := ⟨RX3, "lightOf", "(I)I"⟩
abbrev cX3_redFrom : ByteArray := prog_5_method_8_code
def yX3_redFrom : MethodName := ⟨RX3, "redFrom", "(I)I"⟩
abbrev cX3_addCause : ByteArray := prog_5_method_9_code
def yX3_addCause : MethodName := ⟨RX3, "addCause", "(III)I"⟩
abbrev cX3_causedTo : ByteArray := prog_5_method_10_code
def yX3_causedTo : MethodName := ⟨RX3, "causedTo", "(II)I"⟩
def RX4 : String := "GoneRed$Seconds"
def TX4 : u_T := fun k => match k with
  | 0 => ("GoneRed$Seconds", "names", "LGoneRed$Names;", true)
  | 1 => ("GoneRed$Seconds", "texts", "LGoneRed$Texts;", true)
  | 2 => ("GoneRed$Seconds", "twist", "LGoneRed$Twist;", true)
  | 3 => ("GoneRed$Seconds", "warmth", "[I", true)
  | 4 => ("GoneRed$Seconds", "looked", "[I", true)
  | 5 => ("GoneRed$Seconds", "redFrom", "[I", true)
  | _ => ("GoneRed$Seconds", "faces", "I", false)
def tyX4 : Nat → FieldType := fun k => match k with
  | 0 => .object "GoneRed$Names"
  | 1 => .object "GoneRed$Texts"
  | 2 => .object "GoneRed$Twist"
  | 3 => .array .int
  | 4 => .array .int
  | 5 => .array .int
  | _ => .int
abbrev wsX40 : List Cond := u_ws RX4 TX4 7
theorem nmX4 : ∀ a, a < 7 → ∀ b, b < 7 → a ≠ b → (TX4 a).2.1 ≠ (TX4 b).2.1 := by decide +kernel
theorem tyX4_ok : ∀ k, k < 7 → parseFieldDescriptor (TX4 k).2.2.1 = some (tyX4 k) := by decide +kernel
abbrev cX4_init : ByteArray := prog_6_method_1_code
def yX4_init : MethodName := ⟨RX4, "<init>", "(LGoneRed$Texts;LGoneRed$Twist;)V"⟩
abbrev cX4_play : ByteArray := prog_6_method_2_code
def yX4_play : MethodName := ⟨RX4, "play", "(LGoneRed$Scene;I)V"⟩
abbrev cX4_playOne : ByteArray := prog_6_method_3_code
def yX4_playOne : MethodName := ⟨RX4, "playOne", "(LGoneRed$Scene;II)V"⟩
abbrev cX4_playSecond : ByteArray := prog_6_method_4_code
def yX4_playSecond : MethodName := ⟨RX4, "playSecond", "(LGoneRed$Scene;II)V"⟩
abbrev cX4_lookersAt : ByteArray := prog_6_method_5_code
def yX4_lookersAt : MethodName := ⟨RX4, "lookersAt", "(LGoneRed$Scene;II)I"⟩
abbrev cX4_isPlace : ByteArray := prog_6_method_6_code
def yX4_isPlace : MethodName := ⟨RX4, "isPlace", "(II)Z"⟩
abbrev cX4_warmthBehind : ByteArray := prog_6_method_7_code
def yX4_warmthBehind : MethodName := ⟨RX4, "warmthBehind", "(II)I"⟩
abbrev cX4_lookedBehind : ByteArray := prog_6_method_8_code
def yX4_lookedBehind : MethodName := ⟨RX4, "lookedBehind", "(II)I"⟩
abbrev cX4_isRedBehind : ByteArray := prog_6_method_9_code
def yX4_isRedBehind : MethodName := ⟨RX4, "isRedBehind", "(II)Z"⟩
abbrev cX4_mostWarmth : ByteArray := prog_6_method_10_code
def yX4_mostWarmth : MethodName := ⟨RX4, "mostWarmth", "(I)I"⟩
abbrev cX4_redSeconds : ByteArray := prog_6_method_11_code
def yX4_redSeconds : MethodName := ⟨RX4, "redSeconds", "(I)I"⟩
abbrev cX4_redSecondsOfAll : ByteArray := prog_6_method_12_code
def yX4_redSecondsOfAll : MethodName := ⟨RX4, "redSecondsOfAll", "()I"⟩
abbrev cX4_firstRed : ByteArray := prog_6_method_13_code
def yX4_firstRed : MethodName := ⟨RX4, "firstRed", "(I)I"⟩
abbrev cX4_lastRed : ByteArray := prog_6_method_14_code
def yX4_lastRed : MethodName := ⟨RX4, "lastRed", "(I)I"⟩
abbrev cX4_felt : ByteArray := prog_6_method_15_code
def yX4_felt : MethodName := ⟨RX4, "felt", "(I)I"⟩
abbrev cX4_feltByOthers : ByteArray := prog_6_method_16_code
def yX4_feltByOthers : MethodName := ⟨RX4, "feltByOthers", "(I)I"⟩
abbrev cX4_redBits : ByteArray := prog_6_method_17_code
def yX4_redBits : MethodName := ⟨RX4, "redBits", "(I)I"⟩
abbrev cX4_everRedBits : ByteArray := prog_6_method_18_code
def yX4_everRedBits : MethodName := ⟨RX4, "everRedBits", "()I"⟩
abbrev cX4_warmthOfAll : ByteArray := prog_6_method_19_code
def yX4_warmthOfAll : MethodName := ⟨RX4, "warmthOfAll", "(I)I"⟩
abbrev cX4_hottestBits : ByteArray := prog_6_method_20_code
def yX4_hottestBits : MethodName := ⟨RX4, "hottestBits", "(I)I"⟩
def RX5 : String := "GoneRed$Sheets"
def TX5 : u_T := fun k => match k with
  | 0 => ("GoneRed$Sheets", "sort", "[I", true)
  | 1 => ("GoneRed$Sheets", "size", "[I", true)
  | _ => ("GoneRed$Sheets", "cells", "[I", true)
def tyX5 : Nat → FieldType := fun k => match k with
  | 0 => .array .int
  | 1 => .array .int
  | _ => .array .int
abbrev wsX50 : List Cond := u_ws RX5 TX5 3
theorem nmX5 : ∀ a, a < 3 → ∀ b, b < 3 → a ≠ b → (TX5 a).2.1 ≠ (TX5 b).2.1 := by decide +kernel
theorem tyX5_ok : ∀ k, k < 3 → parseFieldDescriptor (TX5 k).2.2.1 = some (tyX5 k) := by decide +kernel
abbrev cX5_init : ByteArray := prog_7_method_1_code
def yX5_init : MethodName := ⟨RX5, "<init>", "()V"⟩
abbrev cX5_has : ByteArray := prog_7_method_2_code
def yX5_has : MethodName := ⟨RX5, "has", "(I)Z"⟩
abbrev cX5_isMissing : ByteArray := prog_7_method_3_code
def yX5_isMissing : MethodName := ⟨RX5, "isMissing", "(I)Z"⟩
abbrev cX5_holds : ByteArray := prog_7_method_4_code
def yX5_holds : MethodName := ⟨RX5, "holds", "(III)Z"⟩
abbrev cX5_become : ByteArray := prog_7_method_5_code
def yX5_become : MethodName := ⟨RX5, "become", "(III)V"⟩
abbrev cX5_get : ByteArray := prog_7_method_6_code
def yX5_get : MethodName := ⟨RX5, "get", "(II)I"⟩
abbrev cX5_put : ByteArray := prog_7_method_7_code
def yX5_put : MethodName := ⟨RX5, "put", "(III)V"⟩
abbrev cX5_carry : ByteArray := prog_7_method_8_code
def yX5_carry : MethodName := ⟨RX5, "carry", "(IIIII)V"⟩
def RX6 : String := "GoneRed$Texts"
def TX6 : u_T := fun k => match k with
  | 0 => ("GoneRed$Texts", "codes", "[I", true)
  | 1 => ("GoneRed$Texts", "ends", "[I", true)
  | 2 => ("GoneRed$Texts", "stack", "[I", true)
  | 3 => ("GoneRed$Texts", "written", "I", false)
  | _ => ("GoneRed$Texts", "held", "I", false)
def tyX6 : Nat → FieldType := fun k => match k with
  | 0 => .array .int
  | 1 => .array .int
  | 2 => .array .int
  | 3 => .int
  | _ => .int
abbrev wsX60 : List Cond := u_ws RX6 TX6 5
theorem nmX6 : ∀ a, a < 5 → ∀ b, b < 5 → a ≠ b → (TX6 a).2.1 ≠ (TX6 b).2.1 := by decide +kernel
theorem tyX6_ok : ∀ k, k < 5 → parseFieldDescriptor (TX6 k).2.2.1 = some (tyX6 k) := by decide +kernel
abbrev cX6_init : ByteArray := prog_8_method_1_code
def yX6_init : MethodName := ⟨RX6, "<init>", "()V"⟩
abbrev cX6_beginNext : ByteArray := prog_8_method_2_code
def yX6_beginNext : MethodName := ⟨RX6, "beginNext", "()V"⟩
abbrev cX6_write : ByteArray := prog_8_method_3_code
def yX6_write : MethodName := ⟨RX6, "write", "(I)V"⟩
abbrev cX6_endPart : ByteArray := prog_8_method_4_code
def yX6_endPart : MethodName := ⟨RX6, "endPart", "(I)V"⟩
abbrev cX6_keepNext : ByteArray := prog_8_method_5_code
def yX6_keepNext : MethodName := ⟨RX6, "keepNext", "()V"⟩
abbrev cX6_bounded : ByteArray := prog_8_method_6_code
def yX6_bounded : MethodName := ⟨RX6, "bounded", "(II[I)I"⟩
abbrev cX6_value : ByteArray := prog_8_method_7_code
def yX6_value : MethodName := ⟨RX6, "value", "(II[I)I"⟩
abbrev cX6_joined : ByteArray := prog_8_method_8_code
def yX6_joined : MethodName := ⟨RX6, "joined", "(III)I"⟩
def RX7 : String := "GoneRed$Twist"
def TX7 : u_T := fun k => match k with
  | 0 => ("GoneRed$Twist", "stopFace", "I", false)
  | 1 => ("GoneRed$Twist", "stopWhich", "I", false)
  | 2 => ("GoneRed$Twist", "stopAt", "I", false)
  | 3 => ("GoneRed$Twist", "blindOne", "I", false)
  | 4 => ("GoneRed$Twist", "blindTo", "I", false)
  | 5 => ("GoneRed$Twist", "causeFace", "I", false)
  | 6 => ("GoneRed$Twist", "causeAt", "I", false)
  | 7 => ("GoneRed$Twist", "causeMuch", "I", false)
  | 8 => ("GoneRed$Twist", "lotAt", "[I", true)
  | _ => ("GoneRed$Twist", "lotMuch", "I", false)
def tyX7 : Nat → FieldType := fun k => match k with
  | 0 => .int
  | 1 => .int
  | 2 => .int
  | 3 => .int
  | 4 => .int
  | 5 => .int
  | 6 => .int
  | 7 => .int
  | 8 => .array .int
  | _ => .int
abbrev wsX70 : List Cond := u_ws RX7 TX7 10
theorem nmX7 : ∀ a, a < 10 → ∀ b, b < 10 → a ≠ b → (TX7 a).2.1 ≠ (TX7 b).2.1 := by decide +kernel
theorem tyX7_ok : ∀ k, k < 10 → parseFieldDescriptor (TX7 k).2.2.1 = some (tyX7 k) := by decide +kernel
abbrev cX7_init : ByteArray := prog_9_method_1_code
def yX7_init : MethodName := ⟨RX7, "<init>", "()V"⟩
abbrev cX7_clear : ByteArray := prog_9_method_2_code
def yX7_clear : MethodName := ⟨RX7, "clear", "()V"⟩
abbrev cX7_stop : ByteArray := prog_9_method_3_code
def yX7_stop : MethodName := ⟨RX7, "stop", "(III)V"⟩
abbrev cX7_blind : ByteArray := prog_9_method_4_code
def yX7_blind : MethodName := ⟨RX7, "blind", "(II)V"⟩
abbrev cX7_addCause : ByteArray := prog_9_method_5_code
def yX7_addCause : MethodName := ⟨RX7, "addCause", "(III)V"⟩
abbrev cX7_drawLots : ByteArray := prog_9_method_6_code
def yX7_drawLots : MethodName := ⟨RX7, "drawLots", "(II)V"⟩
abbrev cX7_isDoing : ByteArray := prog_9_method_7_code
def yX7_isDoing : MethodName := ⟨RX7, "isDoing", "(IIII)Z"⟩
abbrev cX7_hides : ByteArray := prog_9_method_8_code
def yX7_hides : MethodName := ⟨RX7, "hides", "(II)Z"⟩
abbrev cX7_isBlind : ByteArray := prog_9_method_9_code
def yX7_isBlind : MethodName := ⟨RX7, "isBlind", "(II)Z"⟩
abbrev cX7_warmsSo : ByteArray := prog_9_method_10_code
def yX7_warmsSo : MethodName := ⟨RX7, "warmsSo", "(IIII)I"⟩
abbrev cX7_coolsSo : ByteArray := prog_9_method_11_code
def yX7_coolsSo : MethodName := ⟨RX7, "coolsSo", "(III)I"⟩
abbrev cX7_causedTo : ByteArray := prog_9_method_12_code
def yX7_causedTo : MethodName := ⟨RX7, "causedTo", "(II)I"⟩
abbrev cX7_drawnTo : ByteArray := prog_9_method_13_code
def yX7_drawnTo : MethodName := ⟨RX7, "drawnTo", "(II)I"⟩
def RX8 : String := "GoneRed$Word"
def TX8 : u_T := fun k => match k with
  | _ => ("", "", "", false)
def tyX8 : Nat → FieldType := fun k => match k with
  | _ => .int
abbrev wsX80 : List Cond := u_ws RX8 TX8 0
theorem nmX8 : ∀ a, a < 0 → ∀ b, b < 0 → a ≠ b → (TX8 a).2.1 ≠ (TX8 b).2.1 := by decide +kernel
theorem tyX8_ok : ∀ k, k < 0 → parseFieldDescriptor (TX8 k).2.2.1 = some (tyX8 k) := by decide +kernel
abbrev cX8_spelled : ByteArray := prog_10_method_2_code
def yX8_spelled : MethodName := ⟨RX8, "spelled", "(I)Ljava/lang/String;"⟩
abbrev cX8_signOf : ByteArray := prog_10_method_3_code
def yX8_signOf : MethodName := ⟨RX8, "signOf", "(I)I"⟩
abbrev cX8_keyOf : ByteArray := prog_10_method_4_code
def yX8_keyOf : MethodName := ⟨RX8, "keyOf", "(I)I"⟩
abbrev cX8_isName : ByteArray := prog_10_method_5_code
def yX8_isName : MethodName := ⟨RX8, "isName", "(I)Z"⟩
abbrev cX8_isLetter : ByteArray := prog_10_method_6_code
def yX8_isLetter : MethodName := ⟨RX8, "isLetter", "(I)Z"⟩
abbrev cX8_isDigit : ByteArray := prog_10_method_7_code
def yX8_isDigit : MethodName := ⟨RX8, "isDigit", "(I)Z"⟩
abbrev cX8_isBlank : ByteArray := prog_10_method_8_code
def yX8_isBlank : MethodName := ⟨RX8, "isBlank", "(I)Z"⟩
def RX9 : String := "GoneRed"
def TX9 : u_T := fun k => match k with
  | 0 => ("GoneRed", "texts", "LGoneRed$Texts;", true)
  | 1 => ("GoneRed", "reader", "LGoneRed$Reader;", true)
  | 2 => ("GoneRed", "twist", "LGoneRed$Twist;", true)
  | 3 => ("GoneRed", "seconds", "LGoneRed$Seconds;", true)
  | 4 => ("GoneRed", "now", "LGoneRed$Scene;", true)
  | 5 => ("GoneRed", "thought", "LGoneRed$Scene;", true)
  | 6 => ("GoneRed", "kept", "LGoneRed$Scene;", true)
  | 7 => ("GoneRed", "sheets", "LGoneRed$Sheets;", true)
  | _ => ("GoneRed", "hasImage", "Z", false)
def tyX9 : Nat → FieldType := fun k => match k with
  | 0 => .object "GoneRed$Texts"
  | 1 => .object "GoneRed$Reader"
  | 2 => .object "GoneRed$Twist"
  | 3 => .object "GoneRed$Seconds"
  | 4 => .object "GoneRed$Scene"
  | 5 => .object "GoneRed$Scene"
  | 6 => .object "GoneRed$Scene"
  | 7 => .object "GoneRed$Sheets"
  | _ => .boolean
abbrev wsX90 : List Cond := u_ws RX9 TX9 9
theorem nmX9 : ∀ a, a < 9 → ∀ b, b < 9 → a ≠ b → (TX9 a).2.1 ≠ (TX9 b).2.1 := by decide +kernel
theorem tyX9_ok : ∀ k, k < 9 → parseFieldDescriptor (TX9 k).2.2.1 = some (tyX9 k) := by decide +kernel
abbrev cX9_init : ByteArray := prog_1_method_1_code
def yX9_init : MethodName := ⟨RX9, "<init>", "()V"⟩
abbrev cX9_count : ByteArray := prog_1_method_2_code
def yX9_count : MethodName := ⟨RX9, "count", "(I)I"⟩
abbrev cX9_feed : ByteArray := prog_1_method_3_code
def yX9_feed : MethodName := ⟨RX9, "feed", "(IIIIII)I"⟩
abbrev cX9_text : ByteArray := prog_1_method_4_code
def yX9_text : MethodName := ⟨RX9, "text", "()I"⟩
abbrev cX9_force : ByteArray := prog_1_method_5_code
def yX9_force : MethodName := ⟨RX9, "force", "(I)I"⟩
abbrev cX9_asks : ByteArray := prog_1_method_6_code
def yX9_asks : MethodName := ⟨RX9, "asks", "(IIIII)I"⟩
abbrev cX9_face : ByteArray := prog_1_method_7_code
def yX9_face : MethodName := ⟨RX9, "face", "(III)I"⟩
abbrev cX9_warm : ByteArray := prog_1_method_8_code
def yX9_warm : MethodName := ⟨RX9, "warm", "(II)I"⟩
abbrev cX9_sit : ByteArray := prog_1_method_9_code
def yX9_sit : MethodName := ⟨RX9, "sit", "(II)I"⟩
abbrev cX9_lamp : ByteArray := prog_1_method_10_code
def yX9_lamp : MethodName := ⟨RX9, "lamp", "(II)I"⟩
abbrev cX9_told : ByteArray := prog_1_method_11_code
def yX9_told : MethodName := ⟨RX9, "told", "(II)I"⟩
abbrev cX9_cause : ByteArray := prog_1_method_12_code
def yX9_cause : MethodName := ⟨RX9, "cause", "(III)I"⟩
abbrev cX9_uncause : ByteArray := prog_1_method_13_code
def yX9_uncause : MethodName := ⟨RX9, "uncause", "()I"⟩
abbrev cX9_causeTold : ByteArray := prog_1_method_14_code
def yX9_causeTold : MethodName := ⟨RX9, "causeTold", "(II)I"⟩
abbrev cX9_at : ByteArray := prog_1_method_15_code
def yX9_at : MethodName := ⟨RX9, "at", "(III)I"⟩
abbrev cX9_red : ByteArray := prog_1_method_16_code
def yX9_red : MethodName := ⟨RX9, "red", "(II)I"⟩
abbrev cX9_row : ByteArray := prog_1_method_17_code
def yX9_row : MethodName := ⟨RX9, "row", "(II)I"⟩
abbrev cX9_pass : ByteArray := prog_1_method_18_code
def yX9_pass : MethodName := ⟨RX9, "pass", "(I)I"⟩
abbrev cX9_dies : ByteArray := prog_1_method_19_code
def yX9_dies : MethodName := ⟨RX9, "dies", "(I)I"⟩
abbrev cX9_line : ByteArray := prog_1_method_20_code
def yX9_line : MethodName := ⟨RX9, "line", "(I)I"⟩
abbrev cX9_stops : ByteArray := prog_1_method_21_code
def yX9_stops : MethodName := ⟨RX9, "stops", "(III)I"⟩
abbrev cX9_best : ByteArray := prog_1_method_22_code
def yX9_best : MethodName := ⟨RX9, "best", "(II)I"⟩
abbrev cX9_latest : ByteArray := prog_1_method_23_code
def yX9_latest : MethodName := ⟨RX9, "latest", "(II)I"⟩
abbrev cX9_adds : ByteArray := prog_1_method_24_code
def yX9_adds : MethodName := ⟨RX9, "adds", "(II)I"⟩
abbrev cX9_turn : ByteArray := prog_1_method_25_code
def yX9_turn : MethodName := ⟨RX9, "turn", "(II)I"⟩
abbrev cX9_stares : ByteArray := prog_1_method_26_code
def yX9_stares : MethodName := ⟨RX9, "stares", "(I)I"⟩
abbrev cX9_where : ByteArray := prog_1_method_27_code
def yX9_where : MethodName := ⟨RX9, "where", "(II)I"⟩
abbrev cX9_change : ByteArray := prog_1_method_28_code
def yX9_change : MethodName := ⟨RX9, "change", "(I)I"⟩
abbrev cX9_shade : ByteArray := prog_1_method_29_code
def yX9_shade : MethodName := ⟨RX9, "shade", "(II)I"⟩
abbrev cX9_sets : ByteArray := prog_1_method_30_code
def yX9_sets : MethodName := ⟨RX9, "sets", "(II)I"⟩
abbrev cX9_needs : ByteArray := prog_1_method_31_code
def yX9_needs : MethodName := ⟨RX9, "needs", "(I)I"⟩
abbrev cX9_asked : ByteArray := prog_1_method_32_code
def yX9_asked : MethodName := ⟨RX9, "asked", "(II)I"⟩
abbrev cX9_guilty : ByteArray := prog_1_method_33_code
def yX9_guilty : MethodName := ⟨RX9, "guilty", "(IIII)J"⟩
abbrev cX9_judge : ByteArray := prog_1_method_34_code
def yX9_judge : MethodName := ⟨RX9, "judge", "(II)I"⟩
abbrev cX9_whose : ByteArray := prog_1_method_35_code
def yX9_whose : MethodName := ⟨RX9, "whose", "(I)I"⟩
abbrev cX9_began : ByteArray := prog_1_method_36_code
def yX9_began : MethodName := ⟨RX9, "began", "(III)J"⟩
abbrev cX9_through : ByteArray := prog_1_method_37_code
def yX9_through : MethodName := ⟨RX9, "through", "(III)I"⟩
abbrev cX9_kinds : ByteArray := prog_1_method_38_code
def yX9_kinds : MethodName := ⟨RX9, "kinds", "(III)I"⟩
abbrev cX9_laws : ByteArray := prog_1_method_39_code
def yX9_laws : MethodName := ⟨RX9, "laws", "(II)I"⟩
abbrev cX9_film : ByteArray := prog_1_method_40_code
def yX9_film : MethodName := ⟨RX9, "film", "(III)I"⟩
abbrev cX9_drawn : ByteArray := prog_1_method_41_code
def yX9_drawn : MethodName := ⟨RX9, "drawn", "(II)I"⟩
abbrev cX9_odds : ByteArray := prog_1_method_42_code
def yX9_odds : MethodName := ⟨RX9, "odds", "(IIII)J"⟩
abbrev cX9_image : ByteArray := prog_1_method_43_code
def yX9_image : MethodName := ⟨RX9, "image", "()I"⟩
abbrev cX9_back : ByteArray := prog_1_method_44_code
def yX9_back : MethodName := ⟨RX9, "back", "()I"⟩
abbrev cX9_sheet : ByteArray := prog_1_method_45_code
def yX9_sheet : MethodName := ⟨RX9, "sheet", "(III)I"⟩
abbrev cX9_cell : ByteArray := prog_1_method_46_code
def yX9_cell : MethodName := ⟨RX9, "cell", "(III)I"⟩
abbrev cX9_copy : ByteArray := prog_1_method_47_code
def yX9_copy : MethodName := ⟨RX9, "copy", "(IIIII)I"⟩
abbrev cX9_facesBy : ByteArray := prog_1_method_48_code
def yX9_facesBy : MethodName := ⟨RX9, "facesBy", "(IIII)I"⟩
abbrev cX9_taken : ByteArray := prog_1_method_49_code
def yX9_taken : MethodName := ⟨RX9, "taken", "(II)I"⟩
abbrev cX9_isWithin : ByteArray := prog_1_method_50_code
def yX9_isWithin : MethodName := ⟨RX9, "isWithin", "(II)Z"⟩
abbrev cX9_isByte : ByteArray := prog_1_method_51_code
def yX9_isByte : MethodName := ⟨RX9, "isByte", "(I)Z"⟩
abbrev cX9_isSeat : ByteArray := prog_1_method_52_code
def yX9_isSeat : MethodName := ⟨RX9, "isSeat", "(I)Z"⟩
abbrev cX9_isSecond : ByteArray := prog_1_method_53_code
def yX9_isSecond : MethodName := ⟨RX9, "isSecond", "(I)Z"⟩
abbrev cX9_playAllNow : ByteArray := prog_1_method_54_code
def yX9_playAllNow : MethodName := ⟨RX9, "playAllNow", "(I)V"⟩
abbrev cX9_playAllThought : ByteArray := prog_1_method_55_code
def yX9_playAllThought : MethodName := ⟨RX9, "playAllThought", "(I)V"⟩
abbrev cX9_playNow : ByteArray := prog_1_method_56_code
def yX9_playNow : MethodName := ⟨RX9, "playNow", "(II)V"⟩
abbrev cX9_playThought : ByteArray := prog_1_method_57_code
def yX9_playThought : MethodName := ⟨RX9, "playThought", "(II)V"⟩
abbrev cX9_playStopped : ByteArray := prog_1_method_58_code
def yX9_playStopped : MethodName := ⟨RX9, "playStopped", "(III)V"⟩
abbrev cX9_playCaused : ByteArray := prog_1_method_59_code
def yX9_playCaused : MethodName := ⟨RX9, "playCaused", "(IIIII)V"⟩
abbrev cX9_redTold : ByteArray := prog_1_method_60_code
def yX9_redTold : MethodName := ⟨RX9, "redTold", "(II)I"⟩
abbrev cX9_feltUnseenBy : ByteArray := prog_1_method_61_code
def yX9_feltUnseenBy : MethodName := ⟨RX9, "feltUnseenBy", "(II)I"⟩
abbrev cX9_isRedAsked : ByteArray := prog_1_method_62_code
def yX9_isRedAsked : MethodName := ⟨RX9, "isRedAsked", "(III)Z"⟩
abbrev cX9_lowestTerms : ByteArray := prog_1_method_63_code
def yX9_lowestTerms : MethodName := ⟨RX9, "lowestTerms", "(III)J"⟩
abbrev cX9_filmRefusal : ByteArray := prog_1_method_64_code
def yX9_filmRefusal : MethodName := ⟨RX9, "filmRefusal", "(I)I"⟩
abbrev cX9_filmLength : ByteArray := prog_1_method_65_code
def yX9_filmLength : MethodName := ⟨RX9, "filmLength", "(I)I"⟩
abbrev cX9_firstOther : ByteArray := prog_1_method_66_code
def yX9_firstOther : MethodName := ⟨RX9, "firstOther", "(II)I"⟩
def RX10 : String := "GoneRedModel"
def TX10 : u_T := fun k => match k with
  | 0 => ("GoneRedModel", "light", "[I", true)
  | 1 => ("GoneRedModel", "faces", "I", false)
  | 2 => ("GoneRedModel", "kind", "[I", true)
  | 3 => ("GoneRedModel", "moreOf", "[I", true)
  | 4 => ("GoneRedModel", "warmth", "[I", true)
  | 5 => ("GoneRedModel", "seat", "[I", true)
  | 6 => ("GoneRedModel", "causes", "I", false)
  | 7 => ("GoneRedModel", "causeOf", "[I", true)
  | 8 => ("GoneRedModel", "tape", "[I", true)
  | 9 => ("GoneRedModel", "taped", "I", false)
  | 10 => ("GoneRedModel", "codes", "[I", true)
  | 11 => ("GoneRedModel", "starts", "[I", true)
  | 12 => ("GoneRedModel", "texts", "I", false)
  | 13 => ("GoneRedModel", "rule", "I", false)
  | 14 => ("GoneRedModel", "hasImage", "Z", false)
  | 15 => ("GoneRedModel", "imageFaces", "I", false)
  | 16 => ("GoneRedModel", "imageCauses", "I", false)
  | 17 => ("GoneRedModel", "imageRule", "I", false)
  | 18 => ("GoneRedModel", "imageRows", "[I", true)
  | 19 => ("GoneRedModel", "sheetSort", "[I", true)
  | 20 => ("GoneRedModel", "sheetSize", "[I", true)
  | 21 => ("GoneRedModel", "cells", "[I", true)
  | 22 => ("GoneRedModel", "law", "[I", true)
  | 23 => ("GoneRedModel", "at", "I", false)
  | 24 => ("GoneRedModel", "begun", "I", false)
  | 25 => ("GoneRedModel", "token", "I", false)
  | 26 => ("GoneRedModel", "value", "I", false)
  | 27 => ("GoneRedModel", "words", "[I", true)
  | 28 => ("GoneRedModel", "held", "[I", true)
  | 29 => ("GoneRedModel", "heldMany", "I", false)
  | 30 => ("GoneRedModel", "opens", "I", false)
  | 31 => ("GoneRedModel", "out", "I", false)
  | 32 => ("GoneRedModel", "stack", "[I", true)
  | 33 => ("GoneRedModel", "named", "[I", true)
  | 34 => ("GoneRedModel", "now", "[I", true)
  | 35 => ("GoneRedModel", "ahead", "[I", true)
  | 36 => ("GoneRedModel", "looked", "[I", true)
  | 37 => ("GoneRedModel", "lookedAhead", "[I", true)
  | 38 => ("GoneRedModel", "behind", "[I", true)
  | 39 => ("GoneRedModel", "stopper", "I", false)
  | 40 => ("GoneRedModel", "stopHow", "I", false)
  | 41 => ("GoneRedModel", "stopAt", "I", false)
  | 42 => ("GoneRedModel", "blind", "I", false)
  | 43 => ("GoneRedModel", "unseen", "I", false)
  | 44 => ("GoneRedModel", "extra", "[I", true)
  | 45 => ("GoneRedModel", "extraAt", "I", false)
  | 46 => ("GoneRedModel", "lotMuch", "I", false)
  | 47 => ("GoneRedModel", "lotAt", "[I", true)
  | _ => ("GoneRedModel", "keptSeat", "[I", true)
def tyX10 : Nat → FieldType := fun k => match k with
  | 0 => .array .int
  | 1 => .int
  | 2 => .array .int
  | 3 => .array .int
  | 4 => .array .int
  | 5 => .array .int
  | 6 => .int
  | 7 => .array .int
  | 8 => .array .int
  | 9 => .int
  | 10 => .array .int
  | 11 => .array .int
  | 12 => .int
  | 13 => .int
  | 14 => .boolean
  | 15 => .int
  | 16 => .int
  | 17 => .int
  | 18 => .array .int
  | 19 => .array .int
  | 20 => .array .int
  | 21 => .array .int
  | 22 => .array .int
  | 23 => .int
  | 24 => .int
  | 25 => .int
  | 26 => .int
  | 27 => .array .int
  | 28 => .array .int
  | 29 => .int
  | 30 => .int
  | 31 => .int
  | 32 => .array .int
  | 33 => .array .int
  | 34 => .array .int
  | 35 => .array .int
  | 36 => .array .int
  | 37 => .array .int
  | 38 => .array .int
  | 39 => .int
  | 40 => .int
  | 41 => .int
  | 42 => .int
  | 43 => .int
  | 44 => .array .int
  | 45 => .int
  | 46 => .int
  | 47 => .array .int
  | _ => .array .int
abbrev wsX100 : List Cond := u_ws RX10 TX10 49
theorem nmX10 : ∀ a, a < 49 → ∀ b, b < 49 → a ≠ b → (TX10 a).2.1 ≠ (TX10 b).2.1 := by decide +kernel
theorem tyX10_ok : ∀ k, k < 49 → parseFieldDescriptor (TX10 k).2.2.1 = some (tyX10 k) := by decide +kernel
abbrev cX10_init : ByteArray := prog_12_method_1_code
def yX10_init : MethodName := ⟨RX10, "<init>", "()V"⟩
abbrev cX10_in : ByteArray := prog_12_method_3_code
def yX10_in : MethodName := ⟨RX10, "in", "(III)Z"⟩
abbrev cX10_within : ByteArray := prog_12_method_4_code
def yX10_within : MethodName := ⟨RX10, "within", "(III)I"⟩
abbrev cX10_isFace : ByteArray := prog_12_method_5_code
def yX10_isFace : MethodName := ⟨RX10, "isFace", "(I)Z"⟩
abbrev cX10_isSeat : ByteArray := prog_12_method_6_code
def yX10_isSeat : MethodName := ⟨RX10, "isSeat", "(I)Z"⟩
abbrev cX10_isMuch : ByteArray := prog_12_method_7_code
def yX10_isMuch : MethodName := ⟨RX10, "isMuch", "(I)Z"⟩
abbrev cX10_count : ByteArray := prog_12_method_8_code
def yX10_count : MethodName := ⟨RX10, "count", "(I)I"⟩
abbrev cX10_isByte : ByteArray := prog_12_method_9_code
def yX10_isByte : MethodName := ⟨RX10, "isByte", "(I)Z"⟩
abbrev cX10_feed : ByteArray := prog_12_method_10_code
def yX10_feed : MethodName := ⟨RX10, "feed", "(IIIIII)I"⟩
abbrev cX10_wordFrom : ByteArray := prog_12_method_11_code
def yX10_wordFrom : MethodName := ⟨RX10, "wordFrom", "(II)I"⟩
abbrev cX10_next : ByteArray := prog_12_method_12_code
def yX10_next : MethodName := ⟨RX10, "next", "()V"⟩
abbrev cX10_rank : ByteArray := prog_12_method_13_code
def yX10_rank : MethodName := ⟨RX10, "rank", "(I)I"⟩
abbrev cX10_puts : ByteArray := prog_12_method_14_code
def yX10_puts : MethodName := ⟨RX10, "puts", "(I)V"⟩
abbrev cX10_unwinds : ByteArray := prog_12_method_15_code
def yX10_unwinds : MethodName := ⟨RX10, "unwinds", "(I)V"⟩
abbrev cX10_holds : ByteArray := prog_12_method_16_code
def yX10_holds : MethodName := ⟨RX10, "holds", "(I)V"⟩
abbrev cX10_opensOne : ByteArray := prog_12_method_17_code
def yX10_opensOne : MethodName := ⟨RX10, "opensOne", "(I)Z"⟩
abbrev cX10_between : ByteArray := prog_12_method_18_code
def yX10_between : MethodName := ⟨RX10, "between", "(I)Z"⟩
abbrev cX10_signOf : ByteArray := prog_12_method_19_code
def yX10_signOf : MethodName := ⟨RX10, "signOf", "()I"⟩
abbrev cX10_eRead : ByteArray := prog_12_method_20_code
def yX10_eRead : MethodName := ⟨RX10, "eRead", "()Z"⟩
abbrev cX10_text : ByteArray := prog_12_method_21_code
def yX10_text : MethodName := ⟨RX10, "text", "()I"⟩
abbrev cX10_two : ByteArray := prog_12_method_22_code
def yX10_two : MethodName := ⟨RX10, "two", "(III)I"⟩
abbrev cX10_says : ByteArray := prog_12_method_23_code
def yX10_says : MethodName := ⟨RX10, "says", "(I)I"⟩
abbrev cX10_force : ByteArray := prog_12_method_24_code
def yX10_force : MethodName := ⟨RX10, "force", "(I)I"⟩
abbrev cX10_asksOf : ByteArray := prog_12_method_25_code
def yX10_asksOf : MethodName := ⟨RX10, "asksOf", "(IIIIIII)I"⟩
abbrev cX10_asks : ByteArray := prog_12_method_26_code
def yX10_asks : MethodName := ⟨RX10, "asks", "(IIIII)I"⟩
abbrev cX10_whoSits : ByteArray := prog_12_method_27_code
def yX10_whoSits : MethodName := ⟨RX10, "whoSits", "(I)I"⟩
abbrev cX10_face : ByteArray := prog_12_method_28_code
def yX10_face : MethodName := ⟨RX10, "face", "(III)I"⟩
abbrev cX10_warm : ByteArray := prog_12_method_29_code
def yX10_warm : MethodName := ⟨RX10, "warm", "(II)I"⟩
abbrev cX10_sits : ByteArray := prog_12_method_30_code
def yX10_sits : MethodName := ⟨RX10, "sits", "(II)I"⟩
abbrev cX10_sit : ByteArray := prog_12_method_31_code
def yX10_sit : MethodName := ⟨RX10, "sit", "(II)I"⟩
abbrev cX10_lamp : ByteArray := prog_12_method_32_code
def yX10_lamp : MethodName := ⟨RX10, "lamp", "(II)I"⟩
abbrev cX10_redFrom : ByteArray := prog_12_method_33_code
def yX10_redFrom : MethodName := ⟨RX10, "redFrom", "(I)I"⟩
abbrev cX10_told : ByteArray := prog_12_method_34_code
def yX10_told : MethodName := ⟨RX10, "told", "(II)I"⟩
abbrev cX10_cause : ByteArray := prog_12_method_35_code
def yX10_cause : MethodName := ⟨RX10, "cause", "(III)I"⟩
abbrev cX10_uncause : ByteArray := prog_12_method_36_code
def yX10_uncause : MethodName := ⟨RX10, "uncause", "()I"⟩
abbrev cX10_causeTold : ByteArray := prog_12_method_37_code
def yX10_causeTold : MethodName := ⟨RX10, "causeTold", "(II)I"⟩
abbrev cX10_isStopping : ByteArray := prog_12_method_38_code
def yX10_isStopping : MethodName := ⟨RX10, "isStopping", "(IIII)Z"⟩
abbrev cX10_couldLook : ByteArray := prog_12_method_39_code
def yX10_couldLook : MethodName := ⟨RX10, "couldLook", "(III)Z"⟩
abbrev cX10_isSeen : ByteArray := prog_12_method_40_code
def yX10_isSeen : MethodName := ⟨RX10, "isSeen", "(I)I"⟩
abbrev cX10_howManyLook : ByteArray := prog_12_method_41_code
def yX10_howManyLook : MethodName := ⟨RX10, "howManyLook", "(II)I"⟩
abbrev cX10_warmsBy : ByteArray := prog_12_method_42_code
def yX10_warmsBy : MethodName := ⟨RX10, "warmsBy", "(II)I"⟩
abbrev cX10_coolsBy : ByteArray := prog_12_method_43_code
def yX10_coolsBy : MethodName := ⟨RX10, "coolsBy", "(II)I"⟩
abbrev cX10_causedTo : ByteArray := prog_12_method_44_code
def yX10_causedTo : MethodName := ⟨RX10, "causedTo", "(II)I"⟩
abbrev cX10_seconds : ByteArray := prog_12_method_45_code
def yX10_seconds : MethodName := ⟨RX10, "seconds", "(I)V"⟩
abbrev cX10_runs : ByteArray := prog_12_method_46_code
def yX10_runs : MethodName := ⟨RX10, "runs", "(I)V"⟩
abbrev cX10_isRedNow : ByteArray := prog_12_method_47_code
def yX10_isRedNow : MethodName := ⟨RX10, "isRedNow", "(I)Z"⟩
abbrev cX10_redNow : ByteArray := prog_12_method_48_code
def yX10_redNow : MethodName := ⟨RX10, "redNow", "()I"⟩
abbrev cX10_at : ByteArray := prog_12_method_49_code
def yX10_at : MethodName := ⟨RX10, "at", "(III)I"⟩
abbrev cX10_wasRed : ByteArray := prog_12_method_50_code
def yX10_wasRed : MethodName := ⟨RX10, "wasRed", "(II)Z"⟩
abbrev cX10_redSeconds : ByteArray := prog_12_method_51_code
def yX10_redSeconds : MethodName := ⟨RX10, "redSeconds", "(I)I"⟩
abbrev cX10_firstRed : ByteArray := prog_12_method_52_code
def yX10_firstRed : MethodName := ⟨RX10, "firstRed", "(I)I"⟩
abbrev cX10_lastRed : ByteArray := prog_12_method_53_code
def yX10_lastRed : MethodName := ⟨RX10, "lastRed", "(I)I"⟩
abbrev cX10_mostWarm : ByteArray := prog_12_method_54_code
def yX10_mostWarm : MethodName := ⟨RX10, "mostWarm", "(I)I"⟩
abbrev cX10_feltBy : ByteArray := prog_12_method_55_code
def yX10_feltBy : MethodName := ⟨RX10, "feltBy", "(I)I"⟩
abbrev cX10_redTold : ByteArray := prog_12_method_56_code
def yX10_redTold : MethodName := ⟨RX10, "redTold", "(II)I"⟩
abbrev cX10_red : ByteArray := prog_12_method_57_code
def yX10_red : MethodName := ⟨RX10, "red", "(II)I"⟩
abbrev cX10_row : ByteArray := prog_12_method_58_code
def yX10_row : MethodName := ⟨RX10, "row", "(II)I"⟩
abbrev cX10_ones : ByteArray := prog_12_method_59_code
def yX10_ones : MethodName := ⟨RX10, "ones", "(I)I"⟩
abbrev cX10_pass : ByteArray := prog_12_method_60_code
def yX10_pass : MethodName := ⟨RX10, "pass", "(I)I"⟩
abbrev cX10_diesNow : ByteArray := prog_12_method_61_code
def yX10_diesNow : MethodName := ⟨RX10, "diesNow", "(I)I"⟩
abbrev cX10_dies : ByteArray := prog_12_method_62_code
def yX10_dies : MethodName := ⟨RX10, "dies", "(I)I"⟩
abbrev cX10_line : ByteArray := prog_12_method_63_code
def yX10_line : MethodName := ⟨RX10, "line", "(I)I"⟩
abbrev cX10_stopsBy : ByteArray := prog_12_method_64_code
def yX10_stopsBy : MethodName := ⟨RX10, "stopsBy", "(III)V"⟩
abbrev cX10_stops : ByteArray := prog_12_method_65_code
def yX10_stops : MethodName := ⟨RX10, "stops", "(III)I"⟩
abbrev cX10_best : ByteArray := prog_12_method_66_code
def yX10_best : MethodName := ⟨RX10, "best", "(II)I"⟩
abbrev cX10_latest : ByteArray := prog_12_method_67_code
def yX10_latest : MethodName := ⟨RX10, "latest", "(II)I"⟩
abbrev cX10_addsBy : ByteArray := prog_12_method_68_code
def yX10_addsBy : MethodName := ⟨RX10, "addsBy", "(II)I"⟩
abbrev cX10_adds : ByteArray := prog_12_method_69_code
def yX10_adds : MethodName := ⟨RX10, "adds", "(II)I"⟩
abbrev cX10_turn : ByteArray := prog_12_method_70_code
def yX10_turn : MethodName := ⟨RX10, "turn", "(II)I"⟩
abbrev cX10_feltByOthers : ByteArray := prog_12_method_71_code
def yX10_feltByOthers : MethodName := ⟨RX10, "feltByOthers", "(I)I"⟩
abbrev cX10_stares : ByteArray := prog_12_method_72_code
def yX10_stares : MethodName := ⟨RX10, "stares", "(I)I"⟩
abbrev cX10_keepsSeats : ByteArray := prog_12_method_73_code
def yX10_keepsSeats : MethodName := ⟨RX10, "keepsSeats", "()V"⟩
abbrev cX10_laysSeats : ByteArray := prog_12_method_74_code
def yX10_laysSeats : MethodName := ⟨RX10, "laysSeats", "()V"⟩
abbrev cX10_redOfAll : ByteArray := prog_12_method_75_code
def yX10_redOfAll : MethodName := ⟨RX10, "redOfAll", "()I"⟩
abbrev cX10_where : ByteArray := prog_12_method_76_code
def yX10_where : MethodName := ⟨RX10, "where", "(II)I"⟩
abbrev cX10_change : ByteArray := prog_12_method_77_code
def yX10_change : MethodName := ⟨RX10, "change", "(I)I"⟩
abbrev cX10_shade : ByteArray := prog_12_method_78_code
def yX10_shade : MethodName := ⟨RX10, "shade", "(II)I"⟩
abbrev cX10_everRed : ByteArray := prog_12_method_79_code
def yX10_everRed : MethodName := ⟨RX10, "everRed", "()I"⟩
abbrev cX10_sets : ByteArray := prog_12_method_80_code
def yX10_sets : MethodName := ⟨RX10, "sets", "(II)I"⟩
abbrev cX10_needs : ByteArray := prog_12_method_81_code
def yX10_needs : MethodName := ⟨RX10, "needs", "(I)I"⟩
abbrev cX10_isRedAsked : ByteArray := prog_12_method_82_code
def yX10_isRedAsked : MethodName := ⟨RX10, "isRedAsked", "(III)Z"⟩
abbrev cX10_asked : ByteArray := prog_12_method_83_code
def yX10_asked : MethodName := ⟨RX10, "asked", "(II)I"⟩
abbrev cX10_lowest : ByteArray := prog_12_method_84_code
def yX10_lowest : MethodName := ⟨RX10, "lowest", "(JJI)J"⟩
abbrev cX10_guilty : ByteArray := prog_12_method_85_code
def yX10_guilty : MethodName := ⟨RX10, "guilty", "(IIII)J"⟩
abbrev cX10_sheetWrong : ByteArray := prog_12_method_86_code
def yX10_sheetWrong : MethodName := ⟨RX10, "sheetWrong", "(I)I"⟩
abbrev cX10_toldWrong : ByteArray := prog_12_method_87_code
def yX10_toldWrong : MethodName := ⟨RX10, "toldWrong", "(II)I"⟩
abbrev cX10_unlike : ByteArray := prog_12_method_88_code
def yX10_unlike : MethodName := ⟨RX10, "unlike", "(II)I"⟩
abbrev cX10_judge : ByteArray := prog_12_method_89_code
def yX10_judge : MethodName := ⟨RX10, "judge", "(II)I"⟩
abbrev cX10_whose : ByteArray := prog_12_method_90_code
def yX10_whose : MethodName := ⟨RX10, "whose", "(I)I"⟩
abbrev cX10_began : ByteArray := prog_12_method_91_code
def yX10_began : MethodName := ⟨RX10, "began", "(III)J"⟩
abbrev cX10_through : ByteArray := prog_12_method_92_code
def yX10_through : MethodName := ⟨RX10, "through", "(III)I"⟩
abbrev cX10_kinds : ByteArray := prog_12_method_93_code
def yX10_kinds : MethodName := ⟨RX10, "kinds", "(III)I"⟩
abbrev cX10_laws : ByteArray := prog_12_method_94_code
def yX10_laws : MethodName := ⟨RX10, "laws", "(II)I"⟩
abbrev cX10_film : ByteArray := prog_12_method_95_code
def yX10_film : MethodName := ⟨RX10, "film", "(III)I"⟩
abbrev cX10_redBy : ByteArray := prog_12_method_96_code
def yX10_redBy : MethodName := ⟨RX10, "redBy", "(II)I"⟩
abbrev cX10_drawn : ByteArray := prog_12_method_97_code
def yX10_drawn : MethodName := ⟨RX10, "drawn", "(II)I"⟩
abbrev cX10_odds : ByteArray := prog_12_method_98_code
def yX10_odds : MethodName := ⟨RX10, "odds", "(IIII)J"⟩
abbrev cX10_image : ByteArray := prog_12_method_99_code
def yX10_image : MethodName := ⟨RX10, "image", "()I"⟩
abbrev cX10_back : ByteArray := prog_12_method_100_code
def yX10_back : MethodName := ⟨RX10, "back", "()I"⟩
abbrev cX10_sheet : ByteArray := prog_12_method_101_code
def yX10_sheet : MethodName := ⟨RX10, "sheet", "(III)I"⟩
abbrev cX10_cell : ByteArray := prog_12_method_102_code
def yX10_cell : MethodName := ⟨RX10, "cell", "(III)I"⟩
abbrev cX10_copy : ByteArray := prog_12_method_103_code
def yX10_copy : MethodName := ⟨RX10, "copy", "(IIIII)I"⟩
abbrev cX10_facesBy : ByteArray := prog_12_method_104_code
def yX10_facesBy : MethodName := ⟨RX10, "facesBy", "(IIII)I"⟩
abbrev cX10_isUnder : ByteArray := prog_12_method_105_code
def yX10_isUnder : MethodName := ⟨RX10, "isUnder", "(II)Z"⟩
abbrev cX10_taken : ByteArray := prog_12_method_106_code
def yX10_taken : MethodName := ⟨RX10, "taken", "(II)I"⟩
def RJ6 : String := "java/lang/Integer"
def TJ6 : u_T := fun k => match k with
  | _ => ("", "", "", false)
def tyJ6 : Nat → FieldType := fun k => match k with
  | _ => .int
abbrev wsJ60 : List Cond := u_ws RJ6 TJ6 0
theorem nmJ6 : ∀ a, a < 0 → ∀ b, b < 0 → a ≠ b → (TJ6 a).2.1 ≠ (TJ6 b).2.1 := by decide +kernel
theorem tyJ6_ok : ∀ k, k < 0 → parseFieldDescriptor (TJ6 k).2.2.1 = some (tyJ6 k) := by decide +kernel
abbrev cJ6_bitCount_0f7a4 : ByteArray := prog_13_method_49_code
def yJ6_bitCount_0f7a4 : MethodName := ⟨RJ6, "bitCount", "(I)I"⟩
def RJ9 : String := "java/lang/Math"
def TJ9 : u_T := fun k => match k with
  | _ => ("", "", "", false)
def tyJ9 : Nat → FieldType := fun k => match k with
  | _ => .int
abbrev wsJ90 : List Cond := u_ws RJ9 TJ9 0
theorem nmJ9 : ∀ a, a < 0 → ∀ b, b < 0 → a ≠ b → (TJ9 a).2.1 ≠ (TJ9 b).2.1 := by decide +kernel
theorem tyJ9_ok : ∀ k, k < 0 → parseFieldDescriptor (TJ9 k).2.2.1 = some (tyJ9 k) := by decide +kernel
abbrev cJ9_max_7cf53 : ByteArray := prog_14_method_65_code
def yJ9_max_7cf53 : MethodName := ⟨RJ9, "max", "(II)I"⟩
abbrev cJ9_min_7cf53 : ByteArray := prog_14_method_69_code
def yJ9_min_7cf53 : MethodName := ⟨RJ9, "min", "(II)I"⟩
def RJ0 : String := "java/lang/String"
def TJ0 : u_T := fun k => match k with
  | _ => ("", "", "", false)
def tyJ0 : Nat → FieldType := fun k => match k with
  | _ => .int
abbrev wsJ00 : List Cond := u_ws RJ0 TJ0 0
theorem nmJ0 : ∀ a, a < 0 → ∀ b, b < 0 → a ≠ b → (TJ0 a).2.1 ≠ (TJ0 b).2.1 := by decide +kernel
theorem tyJ0_ok : ∀ k, k < 0 → parseFieldDescriptor (TJ0 k).2.2.1 = some (tyJ0 k) := by decide +kernel
abbrev cJ0_length_8abf5 : ByteArray := prog_15_method_54_code
def yJ0_length_8abf5 : MethodName := ⟨RJ0, "length", "()I"⟩
abbrev cJ0_charAt_5068e : ByteArray := prog_15_method_56_code
def yJ0_charAt_5068e : MethodName := ⟨RJ0, "charAt", "(I)C"⟩
abbrev cJ0_coder_7d493 : ByteArray := prog_15_method_152_code
def yJ0_coder_7d493 : MethodName := ⟨RJ0, "coder", "()B"⟩
abbrev cJ0_isLatin1_aae02 : ByteArray := prog_15_method_154_code
def yJ0_isLatin1_aae02 : MethodName := ⟨RJ0, "isLatin1", "()Z"⟩
abbrev cJ0_checkIndex_df160 : ByteArray := prog_15_method_155_code
def yJ0_checkIndex_df160 : MethodName := ⟨RJ0, "checkIndex", "(II)V"⟩
def RJ1 : String := "java/lang/StringLatin1"
def TJ1 : u_T := fun k => match k with
  | _ => ("", "", "", false)
def tyJ1 : Nat → FieldType := fun k => match k with
  | _ => .int
abbrev wsJ10 : List Cond := u_ws RJ1 TJ1 0
theorem nmJ1 : ∀ a, a < 0 → ∀ b, b < 0 → a ≠ b → (TJ1 a).2.1 ≠ (TJ1 b).2.1 := by decide +kernel
theorem tyJ1_ok : ∀ k, k < 0 → parseFieldDescriptor (TJ1 k).2.2.1 = some (tyJ1 k) := by decide +kernel
abbrev cJ1_charAt_3b067 : ByteArray := prog_16_method_2_code
def yJ1_charAt_3b067 : MethodName := ⟨RJ1, "charAt", "([BI)C"⟩
def RJ2 : String := "java/lang/StringUTF16"
def TJ2 : u_T := fun k => match k with
  | _ => ("", "", "", false)
def tyJ2 : Nat → FieldType := fun k => match k with
  | _ => .int
abbrev wsJ20 : List Cond := u_ws RJ2 TJ2 0
theorem nmJ2 : ∀ a, a < 0 → ∀ b, b < 0 → a ≠ b → (TJ2 a).2.1 ≠ (TJ2 b).2.1 := by decide +kernel
theorem tyJ2_ok : ∀ k, k < 0 → parseFieldDescriptor (TJ2 k).2.2.1 = some (tyJ2 k) := by decide +kernel
abbrev cJ2_getChar_3b067 : ByteArray := prog_17_method_5_code
def yJ2_getChar_3b067 : MethodName := ⟨RJ2, "getChar", "([BI)C"⟩
abbrev cJ2_length_9d52b : ByteArray := prog_17_method_6_code
def yJ2_length_9d52b : MethodName := ⟨RJ2, "length", "([B)I"⟩
abbrev cJ2_charAt_3b067 : ByteArray := prog_17_method_83_code
def yJ2_charAt_3b067 : MethodName := ⟨RJ2, "charAt", "([BI)C"⟩
abbrev cJ2_checkIndex_2214a : ByteArray := prog_17_method_91_code
def yJ2_checkIndex_2214a : MethodName := ⟨RJ2, "checkIndex", "(I[B)V"⟩
def RJ10 : String := "java/lang/System"
def TJ10 : u_T := fun k => match k with
  | _ => ("", "", "", false)
def tyJ10 : Nat → FieldType := fun k => match k with
  | _ => .int
abbrev wsJ100 : List Cond := u_ws RJ10 TJ10 0
theorem nmJ10 : ∀ a, a < 0 → ∀ b, b < 0 → a ≠ b → (TJ10 a).2.1 ≠ (TJ10 b).2.1 := by decide +kernel
theorem tyJ10_ok : ∀ k, k < 0 → parseFieldDescriptor (TJ10 k).2.2.1 = some (tyJ10 k) := by decide +kernel
def RJ3 : String := "jdk/internal/util/Preconditions"
def TJ3 : u_T := fun k => match k with
  | _ => ("", "", "", false)
def tyJ3 : Nat → FieldType := fun k => match k with
  | _ => .int
abbrev wsJ30 : List Cond := u_ws RJ3 TJ3 0
theorem nmJ3 : ∀ a, a < 0 → ∀ b, b < 0 → a ≠ b → (TJ3 a).2.1 ≠ (TJ3 b).2.1 := by decide +kernel
theorem tyJ3_ok : ∀ k, k < 0 → parseFieldDescriptor (TJ3 k).2.2.1 = some (tyJ3 k) := by decide +kernel
abbrev cJ3_checkIndex_8e157 : ByteArray := prog_19_method_11_code
def yJ3_checkIndex_8e157 : MethodName := ⟨RJ3, "checkIndex", "(IILjava/util/function/BiFunction;)I"⟩
def RL : String := "GoneRedLaw"
abbrev cL_law : ByteArray := code
def yL_law : MethodName := ⟨RL, "law", "([I)Z"⟩
abbrev vwCl : List vw_C := [(RX1, TX1, 1), (RX2, TX2, 8), (RX3, TX3, 11), (RX4, TX4, 7), (RX5, TX5, 3), (RX6, TX6, 5), (RX7, TX7, 10), (RX9, TX9, 9), (RX10, TX10, 49)]
