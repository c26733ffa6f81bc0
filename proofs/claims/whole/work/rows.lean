section
-- ===== PART A: goes FIRST, ahead of the names: the tables' words, and 'selects' of the private methods out of them =====
/-- a private method of a class that the tables say can be made, by its rows of tables_1 -/
def lw_okq (q : MethodName × Nat) : Prop := (q.1.cls ≠ "java/lang/invoke/MethodHandle" ∧ q.1.cls ≠ "java/lang/invoke/VarHandle") ∧ Cond.instantiable q.1.cls q.2 ∈ tables_1 ∧ Cond.privateMethod q.1 ∈ tables_1 ∧ Cond.instanceMethod q.1 ∈ tables_1
theorem lw_p0 : lw_okq (⟨"LullabyDebts$Reader", "skipBlanks", "()V"⟩, 5) := ⟨⟨by decide +kernel, by decide +kernel⟩, List.mem_of_getElem? (i := 27) (by decide +kernel), List.mem_of_getElem? (i := 411) (by decide +kernel), List.mem_of_getElem? (i := 412) (by decide +kernel)⟩
theorem lw_p1 : lw_okq (⟨"LullabyDebts$Reader", "readClause", "(LLullabyDebts$Row;)V"⟩, 5) := ⟨⟨by decide +kernel, by decide +kernel⟩, List.mem_of_getElem? (i := 27) (by decide +kernel), List.mem_of_getElem? (i := 415) (by decide +kernel), List.mem_of_getElem? (i := 416) (by decide +kernel)⟩
theorem lw_p2 : lw_okq (⟨"LullabyDebts$Reader", "readHouses", "(LLullabyDebts$Row;Z)V"⟩, 5) := ⟨⟨by decide +kernel, by decide +kernel⟩, List.mem_of_getElem? (i := 27) (by decide +kernel), List.mem_of_getElem? (i := 419) (by decide +kernel), List.mem_of_getElem? (i := 420) (by decide +kernel)⟩
theorem lw_p3 : lw_okq (⟨"LullabyDebts$Reader", "blame", "(II)V"⟩, 5) := ⟨⟨by decide +kernel, by decide +kernel⟩, List.mem_of_getElem? (i := 27) (by decide +kernel), List.mem_of_getElem? (i := 423) (by decide +kernel), List.mem_of_getElem? (i := 424) (by decide +kernel)⟩
theorem lw_p4 : lw_okq (⟨"LullabyDebts$Reader", "readNumber", "(II)I"⟩, 5) := ⟨⟨by decide +kernel, by decide +kernel⟩, List.mem_of_getElem? (i := 27) (by decide +kernel), List.mem_of_getElem? (i := 427) (by decide +kernel), List.mem_of_getElem? (i := 428) (by decide +kernel)⟩
theorem lw_p5 : lw_okq (⟨"LullabyDebts$Reader", "readEnd", "()V"⟩, 5) := ⟨⟨by decide +kernel, by decide +kernel⟩, List.mem_of_getElem? (i := 27) (by decide +kernel), List.mem_of_getElem? (i := 434) (by decide +kernel), List.mem_of_getElem? (i := 435) (by decide +kernel)⟩
theorem lw_p6 : lw_okq (⟨"LullabyDebts$Reader", "readSinger", "(LLullabyDebts$Row;)V"⟩, 5) := ⟨⟨by decide +kernel, by decide +kernel⟩, List.mem_of_getElem? (i := 27) (by decide +kernel), List.mem_of_getElem? (i := 438) (by decide +kernel), List.mem_of_getElem? (i := 439) (by decide +kernel)⟩
theorem lw_p7 : lw_okq (⟨"LullabyDebts$Reader", "readChild", "(LLullabyDebts$Row;)V"⟩, 5) := ⟨⟨by decide +kernel, by decide +kernel⟩, List.mem_of_getElem? (i := 27) (by decide +kernel), List.mem_of_getElem? (i := 442) (by decide +kernel), List.mem_of_getElem? (i := 443) (by decide +kernel)⟩
theorem lw_p8 : lw_okq (⟨"LullabyDebts$Mountain", "beginEvening", "()V"⟩, 2) := ⟨⟨by decide +kernel, by decide +kernel⟩, List.mem_of_getElem? (i := 52) (by decide +kernel), List.mem_of_getElem? (i := 450) (by decide +kernel), List.mem_of_getElem? (i := 451) (by decide +kernel)⟩
theorem lw_p9 : lw_okq (⟨"LullabyDebts$Planner", "weigh", "(LLullabyDebts$Mountain;Z)V"⟩, 4) := ⟨⟨by decide +kernel, by decide +kernel⟩, List.mem_of_getElem? (i := 224) (by decide +kernel), List.mem_of_getElem? (i := 508) (by decide +kernel), List.mem_of_getElem? (i := 509) (by decide +kernel)⟩
theorem lw_p10 : lw_okq (⟨"LullabyDebts$Planner", "solve", "()V"⟩, 4) := ⟨⟨by decide +kernel, by decide +kernel⟩, List.mem_of_getElem? (i := 224) (by decide +kernel), List.mem_of_getElem? (i := 538) (by decide +kernel), List.mem_of_getElem? (i := 539) (by decide +kernel)⟩
theorem lw_p11 : lw_okq (⟨"LullabyDebts$Planner", "bestFrom", "(II)I"⟩, 4) := ⟨⟨by decide +kernel, by decide +kernel⟩, List.mem_of_getElem? (i := 224) (by decide +kernel), List.mem_of_getElem? (i := 542) (by decide +kernel), List.mem_of_getElem? (i := 543) (by decide +kernel)⟩
theorem lw_p12 : lw_okq (⟨"LullabyDebts$Planner", "isOpen", "(III)Z"⟩, 4) := ⟨⟨by decide +kernel, by decide +kernel⟩, List.mem_of_getElem? (i := 224) (by decide +kernel), List.mem_of_getElem? (i := 546) (by decide +kernel), List.mem_of_getElem? (i := 547) (by decide +kernel)⟩
theorem lw_p13 : lw_okq (⟨"LullabyDebts$Planner", "reachedWith", "(III)I"⟩, 4) := ⟨⟨by decide +kernel, by decide +kernel⟩, List.mem_of_getElem? (i := 224) (by decide +kernel), List.mem_of_getElem? (i := 550) (by decide +kernel), List.mem_of_getElem? (i := 551) (by decide +kernel)⟩
theorem lw_p14 : lw_okq (⟨"LullabyDebts", "refuseTimes", "(I)I"⟩, 10) := ⟨⟨by decide +kernel, by decide +kernel⟩, List.mem_of_getElem? (i := 19) (by decide +kernel), List.mem_of_getElem? (i := 644) (by decide +kernel), List.mem_of_getElem? (i := 645) (by decide +kernel)⟩
theorem lw_p15 : lw_okq (⟨"LullabyDebts$Mountain", "addYear", "()V"⟩, 2) := ⟨⟨by decide +kernel, by decide +kernel⟩, List.mem_of_getElem? (i := 52) (by decide +kernel), List.mem_of_getElem? (i := 652) (by decide +kernel), List.mem_of_getElem? (i := 653) (by decide +kernel)⟩
def lw_privs_1 : List (MethodName × Nat) := [(⟨"LullabyDebts$Reader", "skipBlanks", "()V"⟩, 5), (⟨"LullabyDebts$Reader", "readClause", "(LLullabyDebts$Row;)V"⟩, 5), (⟨"LullabyDebts$Reader", "readHouses", "(LLullabyDebts$Row;Z)V"⟩, 5), (⟨"LullabyDebts$Reader", "blame", "(II)V"⟩, 5), (⟨"LullabyDebts$Reader", "readNumber", "(II)I"⟩, 5), (⟨"LullabyDebts$Reader", "readEnd", "()V"⟩, 5), (⟨"LullabyDebts$Reader", "readSinger", "(LLullabyDebts$Row;)V"⟩, 5), (⟨"LullabyDebts$Reader", "readChild", "(LLullabyDebts$Row;)V"⟩, 5), (⟨"LullabyDebts$Mountain", "beginEvening", "()V"⟩, 2), (⟨"LullabyDebts$Planner", "weigh", "(LLullabyDebts$Mountain;Z)V"⟩, 4), (⟨"LullabyDebts$Planner", "solve", "()V"⟩, 4), (⟨"LullabyDebts$Planner", "bestFrom", "(II)I"⟩, 4), (⟨"LullabyDebts$Planner", "isOpen", "(III)Z"⟩, 4), (⟨"LullabyDebts$Planner", "reachedWith", "(III)I"⟩, 4), (⟨"LullabyDebts", "refuseTimes", "(I)I"⟩, 10), (⟨"LullabyDebts$Mountain", "addYear", "()V"⟩, 2)]
theorem lw_r1 : ∀ q ∈ lw_privs_1, lw_okq q := List.forall_mem_cons.mpr ⟨lw_p0, List.forall_mem_cons.mpr ⟨lw_p1, List.forall_mem_cons.mpr ⟨lw_p2, List.forall_mem_cons.mpr ⟨lw_p3, List.forall_mem_cons.mpr ⟨lw_p4, List.forall_mem_cons.mpr ⟨lw_p5, List.forall_mem_cons.mpr ⟨lw_p6, List.forall_mem_cons.mpr ⟨lw_p7, List.forall_mem_cons.mpr ⟨lw_p8, List.forall_mem_cons.mpr ⟨lw_p9, List.forall_mem_cons.mpr ⟨lw_p10, List.forall_mem_cons.mpr ⟨lw_p11, List.forall_mem_cons.mpr ⟨lw_p12, List.forall_mem_cons.mpr ⟨lw_p13, List.forall_mem_cons.mpr ⟨lw_p14, List.forall_mem_cons.mpr ⟨lw_p15, fun _ h => absurd h List.not_mem_nil⟩⟩⟩⟩⟩⟩⟩⟩⟩⟩⟩⟩⟩⟩⟩⟩
theorem lw_p16 : lw_okq (⟨"LullabyDebts", "doByDraws", "()V"⟩, 10) := ⟨⟨by decide +kernel, by decide +kernel⟩, List.mem_of_getElem? (i := 19) (by decide +kernel), List.mem_of_getElem? (i := 660) (by decide +kernel), List.mem_of_getElem? (i := 661) (by decide +kernel)⟩
theorem lw_p17 : lw_okq (⟨"LullabyDebts$Planner", "firstBest", "(II)I"⟩, 4) := ⟨⟨by decide +kernel, by decide +kernel⟩, List.mem_of_getElem? (i := 224) (by decide +kernel), List.mem_of_getElem? (i := 718) (by decide +kernel), List.mem_of_getElem? (i := 719) (by decide +kernel)⟩
theorem lw_p18 : lw_okq (⟨"LullabyDebts$Rounder", "extend", "(IIIIII)V"⟩, 6) := ⟨⟨by decide +kernel, by decide +kernel⟩, List.mem_of_getElem? (i := 243) (by decide +kernel), List.mem_of_getElem? (i := 732) (by decide +kernel), List.mem_of_getElem? (i := 733) (by decide +kernel)⟩
theorem lw_p19 : lw_okq (⟨"LullabyDebts$Tellings", "allFit", "(I)Z"⟩, 3) := ⟨⟨by decide +kernel, by decide +kernel⟩, List.mem_of_getElem? (i := 290) (by decide +kernel), List.mem_of_getElem? (i := 759) (by decide +kernel), List.mem_of_getElem? (i := 760) (by decide +kernel)⟩
theorem lw_p20 : lw_okq (⟨"LullabyDebtsModel", "reads", "()V"⟩, 38) := ⟨⟨by decide +kernel, by decide +kernel⟩, List.mem_of_getElem? (i := 815) (by decide +kernel), List.mem_of_getElem? (i := 947) (by decide +kernel), List.mem_of_getElem? (i := 948) (by decide +kernel)⟩
theorem lw_p21 : lw_okq (⟨"LullabyDebtsModel", "skips", "()V"⟩, 38) := ⟨⟨by decide +kernel, by decide +kernel⟩, List.mem_of_getElem? (i := 815) (by decide +kernel), List.mem_of_getElem? (i := 951) (by decide +kernel), List.mem_of_getElem? (i := 952) (by decide +kernel)⟩
theorem lw_p22 : lw_okq (⟨"LullabyDebtsModel", "clause", "(Z)V"⟩, 38) := ⟨⟨by decide +kernel, by decide +kernel⟩, List.mem_of_getElem? (i := 815) (by decide +kernel), List.mem_of_getElem? (i := 955) (by decide +kernel), List.mem_of_getElem? (i := 956) (by decide +kernel)⟩
theorem lw_p23 : lw_okq (⟨"LullabyDebtsModel", "faults", "(II)V"⟩, 38) := ⟨⟨by decide +kernel, by decide +kernel⟩, List.mem_of_getElem? (i := 815) (by decide +kernel), List.mem_of_getElem? (i := 959) (by decide +kernel), List.mem_of_getElem? (i := 960) (by decide +kernel)⟩
theorem lw_p24 : lw_okq (⟨"LullabyDebtsModel", "number", "(II)I"⟩, 38) := ⟨⟨by decide +kernel, by decide +kernel⟩, List.mem_of_getElem? (i := 815) (by decide +kernel), List.mem_of_getElem? (i := 963) (by decide +kernel), List.mem_of_getElem? (i := 964) (by decide +kernel)⟩
theorem lw_p25 : lw_okq (⟨"LullabyDebtsModel", "isFigure", "()Z"⟩, 38) := ⟨⟨by decide +kernel, by decide +kernel⟩, List.mem_of_getElem? (i := 815) (by decide +kernel), List.mem_of_getElem? (i := 967) (by decide +kernel), List.mem_of_getElem? (i := 968) (by decide +kernel)⟩
theorem lw_p26 : lw_okq (⟨"LullabyDebtsModel", "sets", "(I)I"⟩, 38) := ⟨⟨by decide +kernel, by decide +kernel⟩, List.mem_of_getElem? (i := 815) (by decide +kernel), List.mem_of_getElem? (i := 979) (by decide +kernel), List.mem_of_getElem? (i := 980) (by decide +kernel)⟩
theorem lw_p27 : lw_okq (⟨"LullabyDebtsModel", "owedByAll", "()I"⟩, 38) := ⟨⟨by decide +kernel, by decide +kernel⟩, List.mem_of_getElem? (i := 815) (by decide +kernel), List.mem_of_getElem? (i := 983) (by decide +kernel), List.mem_of_getElem? (i := 984) (by decide +kernel)⟩
theorem lw_p28 : lw_okq (⟨"LullabyDebtsModel", "last", "()I"⟩, 38) := ⟨⟨by decide +kernel, by decide +kernel⟩, List.mem_of_getElem? (i := 815) (by decide +kernel), List.mem_of_getElem? (i := 987) (by decide +kernel), List.mem_of_getElem? (i := 988) (by decide +kernel)⟩
theorem lw_p29 : lw_okq (⟨"LullabyDebtsModel", "max", "(II)I"⟩, 38) := ⟨⟨by decide +kernel, by decide +kernel⟩, List.mem_of_getElem? (i := 815) (by decide +kernel), List.mem_of_getElem? (i := 991) (by decide +kernel), List.mem_of_getElem? (i := 992) (by decide +kernel)⟩
theorem lw_p30 : lw_okq (⟨"LullabyDebtsModel", "hardest", "()I"⟩, 38) := ⟨⟨by decide +kernel, by decide +kernel⟩, List.mem_of_getElem? (i := 815) (by decide +kernel), List.mem_of_getElem? (i := 995) (by decide +kernel), List.mem_of_getElem? (i := 996) (by decide +kernel)⟩
theorem lw_p31 : lw_okq (⟨"LullabyDebtsModel", "needs", "(I)I"⟩, 38) := ⟨⟨by decide +kernel, by decide +kernel⟩, List.mem_of_getElem? (i := 815) (by decide +kernel), List.mem_of_getElem? (i := 999) (by decide +kernel), List.mem_of_getElem? (i := 1000) (by decide +kernel)⟩
def lw_privs_2 : List (MethodName × Nat) := [(⟨"LullabyDebts", "doByDraws", "()V"⟩, 10), (⟨"LullabyDebts$Planner", "firstBest", "(II)I"⟩, 4), (⟨"LullabyDebts$Rounder", "extend", "(IIIIII)V"⟩, 6), (⟨"LullabyDebts$Tellings", "allFit", "(I)Z"⟩, 3), (⟨"LullabyDebtsModel", "reads", "()V"⟩, 38), (⟨"LullabyDebtsModel", "skips", "()V"⟩, 38), (⟨"LullabyDebtsModel", "clause", "(Z)V"⟩, 38), (⟨"LullabyDebtsModel", "faults", "(II)V"⟩, 38), (⟨"LullabyDebtsModel", "number", "(II)I"⟩, 38), (⟨"LullabyDebtsModel", "isFigure", "()Z"⟩, 38), (⟨"LullabyDebtsModel", "sets", "(I)I"⟩, 38), (⟨"LullabyDebtsModel", "owedByAll", "()I"⟩, 38), (⟨"LullabyDebtsModel", "last", "()I"⟩, 38), (⟨"LullabyDebtsModel", "max", "(II)I"⟩, 38), (⟨"LullabyDebtsModel", "hardest", "()I"⟩, 38), (⟨"LullabyDebtsModel", "needs", "(I)I"⟩, 38)]
theorem lw_r2 : ∀ q ∈ lw_privs_2, lw_okq q := List.forall_mem_cons.mpr ⟨lw_p16, List.forall_mem_cons.mpr ⟨lw_p17, List.forall_mem_cons.mpr ⟨lw_p18, List.forall_mem_cons.mpr ⟨lw_p19, List.forall_mem_cons.mpr ⟨lw_p20, List.forall_mem_cons.mpr ⟨lw_p21, List.forall_mem_cons.mpr ⟨lw_p22, List.forall_mem_cons.mpr ⟨lw_p23, List.forall_mem_cons.mpr ⟨lw_p24, List.forall_mem_cons.mpr ⟨lw_p25, List.forall_mem_cons.mpr ⟨lw_p26, List.forall_mem_cons.mpr ⟨lw_p27, List.forall_mem_cons.mpr ⟨lw_p28, List.forall_mem_cons.mpr ⟨lw_p29, List.forall_mem_cons.mpr ⟨lw_p30, List.forall_mem_cons.mpr ⟨lw_p31, fun _ h => absurd h List.not_mem_nil⟩⟩⟩⟩⟩⟩⟩⟩⟩⟩⟩⟩⟩⟩⟩⟩
theorem lw_p32 : lw_okq (⟨"LullabyDebtsModel", "spread", "()I"⟩, 38) := ⟨⟨by decide +kernel, by decide +kernel⟩, List.mem_of_getElem? (i := 815) (by decide +kernel), List.mem_of_getElem? (i := 1003) (by decide +kernel), List.mem_of_getElem? (i := 1004) (by decide +kernel)⟩
theorem lw_p33 : lw_okq (⟨"LullabyDebtsModel", "apart", "(II)I"⟩, 38) := ⟨⟨by decide +kernel, by decide +kernel⟩, List.mem_of_getElem? (i := 815) (by decide +kernel), List.mem_of_getElem? (i := 1007) (by decide +kernel), List.mem_of_getElem? (i := 1008) (by decide +kernel)⟩
theorem lw_p34 : lw_okq (⟨"LullabyDebtsModel", "plans", "(Z)V"⟩, 38) := ⟨⟨by decide +kernel, by decide +kernel⟩, List.mem_of_getElem? (i := 815) (by decide +kernel), List.mem_of_getElem? (i := 1011) (by decide +kernel), List.mem_of_getElem? (i := 1012) (by decide +kernel)⟩
theorem lw_p35 : lw_okq (⟨"LullabyDebtsModel", "could", "(II)Z"⟩, 38) := ⟨⟨by decide +kernel, by decide +kernel⟩, List.mem_of_getElem? (i := 815) (by decide +kernel), List.mem_of_getElem? (i := 1015) (by decide +kernel), List.mem_of_getElem? (i := 1016) (by decide +kernel)⟩
theorem lw_p36 : lw_okq (⟨"LullabyDebtsModel", "isSinger", "(I)Z"⟩, 38) := ⟨⟨by decide +kernel, by decide +kernel⟩, List.mem_of_getElem? (i := 815) (by decide +kernel), List.mem_of_getElem? (i := 1023) (by decide +kernel), List.mem_of_getElem? (i := 1024) (by decide +kernel)⟩
theorem lw_p37 : lw_okq (⟨"LullabyDebtsModel", "isChild", "(I)Z"⟩, 38) := ⟨⟨by decide +kernel, by decide +kernel⟩, List.mem_of_getElem? (i := 815) (by decide +kernel), List.mem_of_getElem? (i := 1027) (by decide +kernel), List.mem_of_getElem? (i := 1028) (by decide +kernel)⟩
theorem lw_p38 : lw_okq (⟨"LullabyDebtsModel", "worth", "(IIZ)I"⟩, 38) := ⟨⟨by decide +kernel, by decide +kernel⟩, List.mem_of_getElem? (i := 815) (by decide +kernel), List.mem_of_getElem? (i := 1032) (by decide +kernel), List.mem_of_getElem? (i := 1033) (by decide +kernel)⟩
theorem lw_p39 : lw_okq (⟨"LullabyDebtsModel", "payment", "(II)I"⟩, 38) := ⟨⟨by decide +kernel, by decide +kernel⟩, List.mem_of_getElem? (i := 815) (by decide +kernel), List.mem_of_getElem? (i := 1036) (by decide +kernel), List.mem_of_getElem? (i := 1037) (by decide +kernel)⟩
theorem lw_p40 : lw_okq (⟨"LullabyDebtsModel", "pay", "(II)I"⟩, 38) := ⟨⟨by decide +kernel, by decide +kernel⟩, List.mem_of_getElem? (i := 815) (by decide +kernel), List.mem_of_getElem? (i := 1040) (by decide +kernel), List.mem_of_getElem? (i := 1041) (by decide +kernel)⟩
theorem lw_p41 : lw_okq (⟨"LullabyDebtsModel", "min", "(II)I"⟩, 38) := ⟨⟨by decide +kernel, by decide +kernel⟩, List.mem_of_getElem? (i := 815) (by decide +kernel), List.mem_of_getElem? (i := 1044) (by decide +kernel), List.mem_of_getElem? (i := 1045) (by decide +kernel)⟩
theorem lw_p42 : lw_okq (⟨"LullabyDebtsModel", "willDefault", "()I"⟩, 38) := ⟨⟨by decide +kernel, by decide +kernel⟩, List.mem_of_getElem? (i := 815) (by decide +kernel), List.mem_of_getElem? (i := 1048) (by decide +kernel), List.mem_of_getElem? (i := 1049) (by decide +kernel)⟩
theorem lw_p43 : lw_okq (⟨"LullabyDebtsModel", "never", "(I)I"⟩, 38) := ⟨⟨by decide +kernel, by decide +kernel⟩, List.mem_of_getElem? (i := 815) (by decide +kernel), List.mem_of_getElem? (i := 1052) (by decide +kernel), List.mem_of_getElem? (i := 1053) (by decide +kernel)⟩
theorem lw_p44 : lw_okq (⟨"LullabyDebtsModel", "remembers", "()V"⟩, 38) := ⟨⟨by decide +kernel, by decide +kernel⟩, List.mem_of_getElem? (i := 815) (by decide +kernel), List.mem_of_getElem? (i := 1069) (by decide +kernel), List.mem_of_getElem? (i := 1070) (by decide +kernel)⟩
theorem lw_p45 : lw_okq (⟨"LullabyDebtsModel", "may", "(II)Z"⟩, 38) := ⟨⟨by decide +kernel, by decide +kernel⟩, List.mem_of_getElem? (i := 815) (by decide +kernel), List.mem_of_getElem? (i := 1077) (by decide +kernel), List.mem_of_getElem? (i := 1078) (by decide +kernel)⟩
theorem lw_p46 : lw_okq (⟨"LullabyDebtsModel", "sings", "(II)I"⟩, 38) := ⟨⟨by decide +kernel, by decide +kernel⟩, List.mem_of_getElem? (i := 815) (by decide +kernel), List.mem_of_getElem? (i := 1081) (by decide +kernel), List.mem_of_getElem? (i := 1082) (by decide +kernel)⟩
theorem lw_p47 : lw_okq (⟨"LullabyDebtsModel", "canBeCarried", "(II)Z"⟩, 38) := ⟨⟨by decide +kernel, by decide +kernel⟩, List.mem_of_getElem? (i := 815) (by decide +kernel), List.mem_of_getElem? (i := 1089) (by decide +kernel), List.mem_of_getElem? (i := 1090) (by decide +kernel)⟩
def lw_privs_3 : List (MethodName × Nat) := [(⟨"LullabyDebtsModel", "spread", "()I"⟩, 38), (⟨"LullabyDebtsModel", "apart", "(II)I"⟩, 38), (⟨"LullabyDebtsModel", "plans", "(Z)V"⟩, 38), (⟨"LullabyDebtsModel", "could", "(II)Z"⟩, 38), (⟨"LullabyDebtsModel", "isSinger", "(I)Z"⟩, 38), (⟨"LullabyDebtsModel", "isChild", "(I)Z"⟩, 38), (⟨"LullabyDebtsModel", "worth", "(IIZ)I"⟩, 38), (⟨"LullabyDebtsModel", "payment", "(II)I"⟩, 38), (⟨"LullabyDebtsModel", "pay", "(II)I"⟩, 38), (⟨"LullabyDebtsModel", "min", "(II)I"⟩, 38), (⟨"LullabyDebtsModel", "willDefault", "()I"⟩, 38), (⟨"LullabyDebtsModel", "never", "(I)I"⟩, 38), (⟨"LullabyDebtsModel", "remembers", "()V"⟩, 38), (⟨"LullabyDebtsModel", "may", "(II)Z"⟩, 38), (⟨"LullabyDebtsModel", "sings", "(II)I"⟩, 38), (⟨"LullabyDebtsModel", "canBeCarried", "(II)Z"⟩, 38)]
theorem lw_r3 : ∀ q ∈ lw_privs_3, lw_okq q := List.forall_mem_cons.mpr ⟨lw_p32, List.forall_mem_cons.mpr ⟨lw_p33, List.forall_mem_cons.mpr ⟨lw_p34, List.forall_mem_cons.mpr ⟨lw_p35, List.forall_mem_cons.mpr ⟨lw_p36, List.forall_mem_cons.mpr ⟨lw_p37, List.forall_mem_cons.mpr ⟨lw_p38, List.forall_mem_cons.mpr ⟨lw_p39, List.forall_mem_cons.mpr ⟨lw_p40, List.forall_mem_cons.mpr ⟨lw_p41, List.forall_mem_cons.mpr ⟨lw_p42, List.forall_mem_cons.mpr ⟨lw_p43, List.forall_mem_cons.mpr ⟨lw_p44, List.forall_mem_cons.mpr ⟨lw_p45, List.forall_mem_cons.mpr ⟨lw_p46, List.forall_mem_cons.mpr ⟨lw_p47, fun _ h => absurd h List.not_mem_nil⟩⟩⟩⟩⟩⟩⟩⟩⟩⟩⟩⟩⟩⟩⟩⟩
theorem lw_p48 : lw_okq (⟨"LullabyDebtsModel", "carries", "(II)V"⟩, 38) := ⟨⟨by decide +kernel, by decide +kernel⟩, List.mem_of_getElem? (i := 815) (by decide +kernel), List.mem_of_getElem? (i := 1093) (by decide +kernel), List.mem_of_getElem? (i := 1094) (by decide +kernel)⟩
theorem lw_p49 : lw_okq (⟨"LullabyDebtsModel", "mayPass", "(I)I"⟩, 38) := ⟨⟨by decide +kernel, by decide +kernel⟩, List.mem_of_getElem? (i := 815) (by decide +kernel), List.mem_of_getElem? (i := 1101) (by decide +kernel), List.mem_of_getElem? (i := 1102) (by decide +kernel)⟩
theorem lw_p50 : lw_okq (⟨"LullabyDebtsModel", "ends", "()V"⟩, 38) := ⟨⟨by decide +kernel, by decide +kernel⟩, List.mem_of_getElem? (i := 815) (by decide +kernel), List.mem_of_getElem? (i := 1105) (by decide +kernel), List.mem_of_getElem? (i := 1106) (by decide +kernel)⟩
theorem lw_p51 : lw_okq (⟨"LullabyDebtsModel", "drifts", "()V"⟩, 38) := ⟨⟨by decide +kernel, by decide +kernel⟩, List.mem_of_getElem? (i := 815) (by decide +kernel), List.mem_of_getElem? (i := 1113) (by decide +kernel), List.mem_of_getElem? (i := 1114) (by decide +kernel)⟩
theorem lw_p52 : lw_okq (⟨"LullabyDebtsModel", "draw", "(I)I"⟩, 38) := ⟨⟨by decide +kernel, by decide +kernel⟩, List.mem_of_getElem? (i := 815) (by decide +kernel), List.mem_of_getElem? (i := 1117) (by decide +kernel), List.mem_of_getElem? (i := 1118) (by decide +kernel)⟩
theorem lw_p53 : lw_okq (⟨"LullabyDebtsModel", "rounds", "(I)V"⟩, 38) := ⟨⟨by decide +kernel, by decide +kernel⟩, List.mem_of_getElem? (i := 815) (by decide +kernel), List.mem_of_getElem? (i := 1146) (by decide +kernel), List.mem_of_getElem? (i := 1147) (by decide +kernel)⟩
def lw_privs_4 : List (MethodName × Nat) := [(⟨"LullabyDebtsModel", "carries", "(II)V"⟩, 38), (⟨"LullabyDebtsModel", "mayPass", "(I)I"⟩, 38), (⟨"LullabyDebtsModel", "ends", "()V"⟩, 38), (⟨"LullabyDebtsModel", "drifts", "()V"⟩, 38), (⟨"LullabyDebtsModel", "draw", "(I)I"⟩, 38), (⟨"LullabyDebtsModel", "rounds", "(I)V"⟩, 38)]
theorem lw_r4 : ∀ q ∈ lw_privs_4, lw_okq q := List.forall_mem_cons.mpr ⟨lw_p48, List.forall_mem_cons.mpr ⟨lw_p49, List.forall_mem_cons.mpr ⟨lw_p50, List.forall_mem_cons.mpr ⟨lw_p51, List.forall_mem_cons.mpr ⟨lw_p52, List.forall_mem_cons.mpr ⟨lw_p53, fun _ h => absurd h List.not_mem_nil⟩⟩⟩⟩⟩⟩
def lw_privs : List (MethodName × Nat) := lw_privs_1 ++ (lw_privs_2 ++ (lw_privs_3 ++ (lw_privs_4)))
def lw_tbl : List Cond := k2_sels lw_privs ++ tables_1
theorem lw_privs_ok : ∀ q ∈ lw_privs, lw_okq q := by
  show ∀ q ∈ lw_privs_1 ++ (lw_privs_2 ++ (lw_privs_3 ++ (lw_privs_4))), lw_okq q
  exact List.forall_mem_append.mpr ⟨lw_r1, List.forall_mem_append.mpr ⟨lw_r2, List.forall_mem_append.mpr ⟨lw_r3, lw_r4⟩⟩⟩
-- ===== end of PART A; then your names; then what follows =====
end
section
def RX0 : String := "LullabyDebts$Book"
def TX0 : u_T := fun k => match k with
  | 0 => ("LullabyDebts$Book", "singers", "[I", true)
  | 1 => ("LullabyDebts$Book", "notches", "[I", true)
  | _ => ("LullabyDebts$Book", "count", "I", false)
def tyX0 : Nat → FieldType := fun k => match k with
  | 0 => .array .int
  | 1 => .array .int
  | _ => .int
abbrev wsX00 : List Cond := u_ws RX0 TX0 3
theorem nmX0 : ∀ a, a < 3 → ∀ b, b < 3 → a ≠ b → (TX0 a).2.1 ≠ (TX0 b).2.1 := by decide +kernel
theorem tyX0_ok : ∀ k, k < 3 → parseFieldDescriptor (TX0 k).2.2.1 = some (tyX0 k) := by decide +kernel
abbrev cX0_init : ByteArray := prog_2_method_1_code
def yX0_init : MethodName := ⟨RX0, "<init>", "()V"⟩
abbrev cX0_add : ByteArray := prog_2_method_2_code
def yX0_add : MethodName := ⟨RX0, "add", "(II)V"⟩
abbrev cX0_clear : ByteArray := prog_2_method_3_code
def yX0_clear : MethodName := ⟨RX0, "clear", "()V"⟩
abbrev cX0_firstWrong : ByteArray := prog_2_method_4_code
def yX0_firstWrong : MethodName := ⟨RX0, "firstWrong", "(LLullabyDebts$Night;)I"⟩
def RX1 : String := "LullabyDebts$Draws"
def TX1 : u_T := fun k => match k with
  | _ => ("LullabyDebts$Draws", "state", "I", false)
def tyX1 : Nat → FieldType := fun k => match k with
  | _ => .int
abbrev wsX10 : List Cond := u_ws RX1 TX1 1
theorem nmX1 : ∀ a, a < 1 → ∀ b, b < 1 → a ≠ b → (TX1 a).2.1 ≠ (TX1 b).2.1 := by decide +kernel
theorem tyX1_ok : ∀ k, k < 1 → parseFieldDescriptor (TX1 k).2.2.1 = some (tyX1 k) := by decide +kernel
abbrev cX1_init : ByteArray := prog_3_method_1_code
def yX1_init : MethodName := ⟨RX1, "<init>", "()V"⟩
abbrev cX1_drawOf : ByteArray := prog_3_method_2_code
def yX1_drawOf : MethodName := ⟨RX1, "drawOf", "(I)I"⟩
def RX2 : String := "LullabyDebts$Image"
def TX2 : u_T := fun k => match k with
  | 0 => ("LullabyDebts$Image", "night", "LLullabyDebts$Night;", true)
  | 1 => ("LullabyDebts$Image", "drawState", "I", false)
  | _ => ("LullabyDebts$Image", "kept", "Z", false)
def tyX2 : Nat → FieldType := fun k => match k with
  | 0 => .object "LullabyDebts$Night"
  | 1 => .int
  | _ => .boolean
abbrev wsX20 : List Cond := u_ws RX2 TX2 3
theorem nmX2 : ∀ a, a < 3 → ∀ b, b < 3 → a ≠ b → (TX2 a).2.1 ≠ (TX2 b).2.1 := by decide +kernel
theorem tyX2_ok : ∀ k, k < 3 → parseFieldDescriptor (TX2 k).2.2.1 = some (tyX2 k) := by decide +kernel
abbrev cX2_init : ByteArray := prog_4_method_1_code
def yX2_init : MethodName := ⟨RX2, "<init>", "()V"⟩
def RX3 : String := "LullabyDebts$Mountain"
def TX3 : u_T := fun k => match k with
  | 0 => ("LullabyDebts$Mountain", "now", "LLullabyDebts$Night;", true)
  | _ => ("LullabyDebts$Mountain", "facts", "LLullabyDebts$Row;", false)
def tyX3 : Nat → FieldType := fun k => match k with
  | 0 => .object "LullabyDebts$Night"
  | _ => .object "LullabyDebts$Row"
abbrev wsX30 : List Cond := u_ws RX3 TX3 2
theorem nmX3 : ∀ a, a < 2 → ∀ b, b < 2 → a ≠ b → (TX3 a).2.1 ≠ (TX3 b).2.1 := by decide +kernel
theorem tyX3_ok : ∀ k, k < 2 → parseFieldDescriptor (TX3 k).2.2.1 = some (tyX3 k) := by decide +kernel
abbrev cX3_init : ByteArray := prog_5_method_1_code
def yX3_init : MethodName := ⟨RX3, "<init>", "()V"⟩
abbrev cX3_begin : ByteArray := prog_5_method_2_code
def yX3_begin : MethodName := ⟨RX3, "begin", "(LLullabyDebts$Row;)V"⟩
abbrev cX3_hasSinger : ByteArray := prog_5_method_3_code
def yX3_hasSinger : MethodName := ⟨RX3, "hasSinger", "(I)Z"⟩
abbrev cX3_hasChild : ByteArray := prog_5_method_4_code
def yX3_hasChild : MethodName := ⟨RX3, "hasChild", "(I)Z"⟩
abbrev cX3_hasBoth : ByteArray := prog_5_method_5_code
def yX3_hasBoth : MethodName := ⟨RX3, "hasBoth", "(II)Z"⟩
abbrev cX3_isAwake : ByteArray := prog_5_method_6_code
def yX3_isAwake : MethodName := ⟨RX3, "isAwake", "(I)Z"⟩
abbrev cX3_needsOf : ByteArray := prog_5_method_7_code
def yX3_needsOf : MethodName := ⟨RX3, "needsOf", "(I)I"⟩
abbrev cX3_songPays : ByteArray := prog_5_method_8_code
def yX3_songPays : MethodName := ⟨RX3, "songPays", "(II)I"⟩
abbrev cX3_songPaysTo : ByteArray := prog_5_method_9_code
def yX3_songPaysTo : MethodName := ⟨RX3, "songPaysTo", "(II)I"⟩
abbrev cX3_stepsTo : ByteArray := prog_5_method_10_code
def yX3_stepsTo : MethodName := ⟨RX3, "stepsTo", "(II)I"⟩
abbrev cX3_couldPutDown : ByteArray := prog_5_method_11_code
def yX3_couldPutDown : MethodName := ⟨RX3, "couldPutDown", "(II)Z"⟩
abbrev cX3_wouldPay : ByteArray := prog_5_method_12_code
def yX3_wouldPay : MethodName := ⟨RX3, "wouldPay", "(II)I"⟩
abbrev cX3_mayWalk : ByteArray := prog_5_method_13_code
def yX3_mayWalk : MethodName := ⟨RX3, "mayWalk", "(II)Z"⟩
abbrev cX3_walk : ByteArray := prog_5_method_14_code
def yX3_walk : MethodName := ⟨RX3, "walk", "(II)V"⟩
abbrev cX3_mayLull : ByteArray := prog_5_method_15_code
def yX3_mayLull : MethodName := ⟨RX3, "mayLull", "(II)Z"⟩
abbrev cX3_lull : ByteArray := prog_5_method_16_code
def yX3_lull : MethodName := ⟨RX3, "lull", "(II)I"⟩
abbrev cX3_mayPass : ByteArray := prog_5_method_17_code
def yX3_mayPass : MethodName := ⟨RX3, "mayPass", "(II)Z"⟩
abbrev cX3_pass : ByteArray := prog_5_method_18_code
def yX3_pass : MethodName := ⟨RX3, "pass", "(II)V"⟩
abbrev cX3_visit : ByteArray := prog_5_method_19_code
def yX3_visit : MethodName := ⟨RX3, "visit", "(II)V"⟩
abbrev cX3_endEvening : ByteArray := prog_5_method_20_code
def yX3_endEvening : MethodName := ⟨RX3, "endEvening", "()V"⟩
abbrev cX3_beginEvening : ByteArray := prog_5_method_21_code
def yX3_beginEvening : MethodName := ⟨RX3, "beginEvening", "()V"⟩
abbrev cX3_addYear : ByteArray := prog_5_method_22_code
def yX3_addYear : MethodName := ⟨RX3, "addYear", "()V"⟩
def RX4 : String := "LullabyDebts$Night"
def TX4 : u_T := fun k => match k with
  | 0 => ("LullabyDebts$Night", "age", "[I", true)
  | 1 => ("LullabyDebts$Night", "debt", "[I", true)
  | 2 => ("LullabyDebts$Night", "house", "[I", true)
  | 3 => ("LullabyDebts$Night", "songs", "[I", true)
  | 4 => ("LullabyDebts$Night", "bed", "[I", true)
  | 5 => ("LullabyDebts$Night", "heard", "[I", true)
  | 6 => ("LullabyDebts$Night", "sungTo", "[I", true)
  | 7 => ("LullabyDebts$Night", "awake", "I", false)
  | 8 => ("LullabyDebts$Night", "evening", "I", false)
  | 9 => ("LullabyDebts$Night", "inDefault", "I", false)
  | _ => ("LullabyDebts$Night", "late", "I", false)
def tyX4 : Nat → FieldType := fun k => match k with
  | 0 => .array .int
  | 1 => .array .int
  | 2 => .array .int
  | 3 => .array .int
  | 4 => .array .int
  | 5 => .array .int
  | 6 => .array .int
  | 7 => .int
  | 8 => .int
  | 9 => .int
  | _ => .int
abbrev wsX40 : List Cond := u_ws RX4 TX4 11
theorem nmX4 : ∀ a, a < 11 → ∀ b, b < 11 → a ≠ b → (TX4 a).2.1 ≠ (TX4 b).2.1 := by decide +kernel
theorem tyX4_ok : ∀ k, k < 11 → parseFieldDescriptor (TX4 k).2.2.1 = some (tyX4 k) := by decide +kernel
abbrev cX4_init : ByteArray := prog_6_method_1_code
def yX4_init : MethodName := ⟨RX4, "<init>", "()V"⟩
abbrev cX4_copyFrom : ByteArray := prog_6_method_2_code
def yX4_copyFrom : MethodName := ⟨RX4, "copyFrom", "(LLullabyDebts$Night;)V"⟩
def RX5 : String := "LullabyDebts$Outlook"
def TX5 : u_T := fun k => match k with
  | _ => ("", "", "", false)
def tyX5 : Nat → FieldType := fun k => match k with
  | _ => .int
abbrev wsX50 : List Cond := u_ws RX5 TX5 0
theorem nmX5 : ∀ a, a < 0 → ∀ b, b < 0 → a ≠ b → (TX5 a).2.1 ≠ (TX5 b).2.1 := by decide +kernel
theorem tyX5_ok : ∀ k, k < 0 → parseFieldDescriptor (TX5 k).2.2.1 = some (tyX5 k) := by decide +kernel
abbrev cX5_freeSingers : ByteArray := prog_7_method_2_code
def yX5_freeSingers : MethodName := ⟨RX5, "freeSingers", "(LLullabyDebts$Mountain;)I"⟩
abbrev cX5_allNotches : ByteArray := prog_7_method_3_code
def yX5_allNotches : MethodName := ⟨RX5, "allNotches", "(LLullabyDebts$Mountain;)I"⟩
abbrev cX5_lastSinger : ByteArray := prog_7_method_4_code
def yX5_lastSinger : MethodName := ⟨RX5, "lastSinger", "(LLullabyDebts$Mountain;)I"⟩
abbrev cX5_hardestChild : ByteArray := prog_7_method_5_code
def yX5_hardestChild : MethodName := ⟨RX5, "hardestChild", "(LLullabyDebts$Mountain;)I"⟩
abbrev cX5_spreadOfChildren : ByteArray := prog_7_method_6_code
def yX5_spreadOfChildren : MethodName := ⟨RX5, "spreadOfChildren", "(LLullabyDebts$Mountain;)I"⟩
abbrev cX5_eveningsTillFree : ByteArray := prog_7_method_7_code
def yX5_eveningsTillFree : MethodName := ⟨RX5, "eveningsTillFree", "(LLullabyDebts$Mountain;I)I"⟩
abbrev cX5_willDefault : ByteArray := prog_7_method_8_code
def yX5_willDefault : MethodName := ⟨RX5, "willDefault", "(LLullabyDebts$Mountain;)I"⟩
abbrev cX5_eveningsTillDue : ByteArray := prog_7_method_9_code
def yX5_eveningsTillDue : MethodName := ⟨RX5, "eveningsTillDue", "(LLullabyDebts$Mountain;I)I"⟩
def RX6 : String := "LullabyDebts$Past"
def TX6 : u_T := fun k => match k with
  | 0 => ("LullabyDebts$Past", "nights", "[LLullabyDebts$Night;", true)
  | 1 => ("LullabyDebts$Past", "next", "I", false)
  | _ => ("LullabyDebts$Past", "count", "I", false)
def tyX6 : Nat → FieldType := fun k => match k with
  | 0 => .array (.object "LullabyDebts$Night")
  | 1 => .int
  | _ => .int
abbrev wsX60 : List Cond := u_ws RX6 TX6 3
theorem nmX6 : ∀ a, a < 3 → ∀ b, b < 3 → a ≠ b → (TX6 a).2.1 ≠ (TX6 b).2.1 := by decide +kernel
theorem tyX6_ok : ∀ k, k < 3 → parseFieldDescriptor (TX6 k).2.2.1 = some (tyX6 k) := by decide +kernel
abbrev cX6_init : ByteArray := prog_8_method_1_code
def yX6_init : MethodName := ⟨RX6, "<init>", "()V"⟩
abbrev cX6_remember : ByteArray := prog_8_method_2_code
def yX6_remember : MethodName := ⟨RX6, "remember", "(LLullabyDebts$Night;)V"⟩
abbrev cX6_takeBack : ByteArray := prog_8_method_3_code
def yX6_takeBack : MethodName := ⟨RX6, "takeBack", "(ILLullabyDebts$Night;)V"⟩
abbrev cX6_forget : ByteArray := prog_8_method_4_code
def yX6_forget : MethodName := ⟨RX6, "forget", "()V"⟩
def RX7 : String := "LullabyDebts$Planner"
def TX7 : u_T := fun k => match k with
  | 0 => ("LullabyDebts$Planner", "worth", "[I", true)
  | 1 => ("LullabyDebts$Planner", "best", "[I", true)
  | 2 => ("LullabyDebts$Planner", "singers", "I", false)
  | _ => ("LullabyDebts$Planner", "children", "I", false)
def tyX7 : Nat → FieldType := fun k => match k with
  | 0 => .array .int
  | 1 => .array .int
  | 2 => .int
  | _ => .int
abbrev wsX70 : List Cond := u_ws RX7 TX7 4
theorem nmX7 : ∀ a, a < 4 → ∀ b, b < 4 → a ≠ b → (TX7 a).2.1 ≠ (TX7 b).2.1 := by decide +kernel
theorem tyX7_ok : ∀ k, k < 4 → parseFieldDescriptor (TX7 k).2.2.1 = some (tyX7 k) := by decide +kernel
abbrev cX7_init : ByteArray := prog_9_method_1_code
def yX7_init : MethodName := ⟨RX7, "<init>", "()V"⟩
abbrev cX7_mostPaid : ByteArray := prog_9_method_2_code
def yX7_mostPaid : MethodName := ⟨RX7, "mostPaid", "(LLullabyDebts$Mountain;)I"⟩
abbrev cX7_mostAsleep : ByteArray := prog_9_method_3_code
def yX7_mostAsleep : MethodName := ⟨RX7, "mostAsleep", "(LLullabyDebts$Mountain;)I"⟩
abbrev cX7_childOf : ByteArray := prog_9_method_4_code
def yX7_childOf : MethodName := ⟨RX7, "childOf", "(LLullabyDebts$Mountain;I)I"⟩
abbrev cX7_weigh : ByteArray := prog_9_method_5_code
def yX7_weigh : MethodName := ⟨RX7, "weigh", "(LLullabyDebts$Mountain;Z)V"⟩
abbrev cX7_solve : ByteArray := prog_9_method_6_code
def yX7_solve : MethodName := ⟨RX7, "solve", "()V"⟩
abbrev cX7_bestFrom : ByteArray := prog_9_method_7_code
def yX7_bestFrom : MethodName := ⟨RX7, "bestFrom", "(II)I"⟩
abbrev cX7_firstBest : ByteArray := prog_9_method_8_code
def yX7_firstBest : MethodName := ⟨RX7, "firstBest", "(II)I"⟩
abbrev cX7_isOpen : ByteArray := prog_9_method_9_code
def yX7_isOpen : MethodName := ⟨RX7, "isOpen", "(III)Z"⟩
abbrev cX7_reachedWith : ByteArray := prog_9_method_10_code
def yX7_reachedWith : MethodName := ⟨RX7, "reachedWith", "(III)I"⟩
def RX8 : String := "LullabyDebts$Reader"
def TX8 : u_T := fun k => match k with
  | 0 => ("LullabyDebts$Reader", "letters", "[C", true)
  | 1 => ("LullabyDebts$Reader", "length", "I", false)
  | 2 => ("LullabyDebts$Reader", "faultAt", "I", false)
  | 3 => ("LullabyDebts$Reader", "faultKind", "I", false)
  | _ => ("LullabyDebts$Reader", "at", "I", false)
def tyX8 : Nat → FieldType := fun k => match k with
  | 0 => .array .char
  | 1 => .int
  | 2 => .int
  | 3 => .int
  | _ => .int
abbrev wsX80 : List Cond := u_ws RX8 TX8 5
theorem nmX8 : ∀ a, a < 5 → ∀ b, b < 5 → a ≠ b → (TX8 a).2.1 ≠ (TX8 b).2.1 := by decide +kernel
theorem tyX8_ok : ∀ k, k < 5 → parseFieldDescriptor (TX8 k).2.2.1 = some (tyX8 k) := by decide +kernel
abbrev cX8_init : ByteArray := prog_10_method_1_code
def yX8_init : MethodName := ⟨RX8, "<init>", "()V"⟩
abbrev cX8_add : ByteArray := prog_10_method_2_code
def yX8_add : MethodName := ⟨RX8, "add", "(I)V"⟩
abbrev cX8_readInto : ByteArray := prog_10_method_3_code
def yX8_readInto : MethodName := ⟨RX8, "readInto", "(LLullabyDebts$Row;)I"⟩
abbrev cX8_readClause : ByteArray := prog_10_method_4_code
def yX8_readClause : MethodName := ⟨RX8, "readClause", "(LLullabyDebts$Row;)V"⟩
abbrev cX8_readHouses : ByteArray := prog_10_method_5_code
def yX8_readHouses : MethodName := ⟨RX8, "readHouses", "(LLullabyDebts$Row;Z)V"⟩
abbrev cX8_readSinger : ByteArray := prog_10_method_6_code
def yX8_readSinger : MethodName := ⟨RX8, "readSinger", "(LLullabyDebts$Row;)V"⟩
abbrev cX8_readChild : ByteArray := prog_10_method_7_code
def yX8_readChild : MethodName := ⟨RX8, "readChild", "(LLullabyDebts$Row;)V"⟩
abbrev cX8_readNumber : ByteArray := prog_10_method_8_code
def yX8_readNumber : MethodName := ⟨RX8, "readNumber", "(II)I"⟩
abbrev cX8_readEnd : ByteArray := prog_10_method_9_code
def yX8_readEnd : MethodName := ⟨RX8, "readEnd", "()V"⟩
abbrev cX8_skipBlanks : ByteArray := prog_10_method_10_code
def yX8_skipBlanks : MethodName := ⟨RX8, "skipBlanks", "()V"⟩
abbrev cX8_isFigure : ByteArray := prog_10_method_11_code
def yX8_isFigure : MethodName := ⟨RX8, "isFigure", "(C)Z"⟩
abbrev cX8_blame : ByteArray := prog_10_method_12_code
def yX8_blame : MethodName := ⟨RX8, "blame", "(II)V"⟩
def RX9 : String := "LullabyDebts$Rounder"
def TX9 : u_T := fun k => match k with
  | 0 => ("LullabyDebts$Rounder", "bed", "[I", true)
  | 1 => ("LullabyDebts$Rounder", "needs", "[I", true)
  | 2 => ("LullabyDebts$Rounder", "paid", "[I", true)
  | 3 => ("LullabyDebts$Rounder", "children", "I", false)
  | 4 => ("LullabyDebts$Rounder", "mostChildren", "I", false)
  | _ => ("LullabyDebts$Rounder", "leastFigures", "I", false)
def tyX9 : Nat → FieldType := fun k => match k with
  | 0 => .array .int
  | 1 => .array .int
  | 2 => .array .int
  | 3 => .int
  | 4 => .int
  | _ => .int
abbrev wsX90 : List Cond := u_ws RX9 TX9 6
theorem nmX9 : ∀ a, a < 6 → ∀ b, b < 6 → a ≠ b → (TX9 a).2.1 ≠ (TX9 b).2.1 := by decide +kernel
theorem tyX9_ok : ∀ k, k < 6 → parseFieldDescriptor (TX9 k).2.2.1 = some (tyX9 k) := by decide +kernel
abbrev cX9_init : ByteArray := prog_11_method_1_code
def yX9_init : MethodName := ⟨RX9, "<init>", "()V"⟩
abbrev cX9_search : ByteArray := prog_11_method_2_code
def yX9_search : MethodName := ⟨RX9, "search", "(LLullabyDebts$Mountain;I)V"⟩
abbrev cX9_extend : ByteArray := prog_11_method_3_code
def yX9_extend : MethodName := ⟨RX9, "extend", "(IIIIII)V"⟩
def RX10 : String := "LullabyDebts$Row"
def TX10 : u_T := fun k => match k with
  | 0 => ("LullabyDebts$Row", "voice", "[I", true)
  | 1 => ("LullabyDebts$Row", "age", "[I", true)
  | 2 => ("LullabyDebts$Row", "owes", "[I", true)
  | 3 => ("LullabyDebts$Row", "home", "[I", true)
  | 4 => ("LullabyDebts$Row", "kind", "[I", true)
  | 5 => ("LullabyDebts$Row", "patience", "[I", true)
  | 6 => ("LullabyDebts$Row", "bed", "[I", true)
  | 7 => ("LullabyDebts$Row", "houses", "I", false)
  | 8 => ("LullabyDebts$Row", "songs", "I", false)
  | 9 => ("LullabyDebts$Row", "singers", "I", false)
  | _ => ("LullabyDebts$Row", "children", "I", false)
def tyX10 : Nat → FieldType := fun k => match k with
  | 0 => .array .int
  | 1 => .array .int
  | 2 => .array .int
  | 3 => .array .int
  | 4 => .array .int
  | 5 => .array .int
  | 6 => .array .int
  | 7 => .int
  | 8 => .int
  | 9 => .int
  | _ => .int
abbrev wsX100 : List Cond := u_ws RX10 TX10 11
theorem nmX10 : ∀ a, a < 11 → ∀ b, b < 11 → a ≠ b → (TX10 a).2.1 ≠ (TX10 b).2.1 := by decide +kernel
theorem tyX10_ok : ∀ k, k < 11 → parseFieldDescriptor (TX10 k).2.2.1 = some (tyX10 k) := by decide +kernel
abbrev cX10_init : ByteArray := prog_12_method_1_code
def yX10_init : MethodName := ⟨RX10, "<init>", "()V"⟩
abbrev cX10_clear : ByteArray := prog_12_method_2_code
def yX10_clear : MethodName := ⟨RX10, "clear", "()V"⟩
def RX11 : String := "LullabyDebts$Tellings"
def TX11 : u_T := fun k => match k with
  | 0 => ("LullabyDebts$Tellings", "bound", "[I", true)
  | 1 => ("LullabyDebts$Tellings", "orMore", "[Z", true)
  | _ => ("LullabyDebts$Tellings", "count", "I", false)
def tyX11 : Nat → FieldType := fun k => match k with
  | 0 => .array .int
  | 1 => .array .boolean
  | _ => .int
abbrev wsX110 : List Cond := u_ws RX11 TX11 3
theorem nmX11 : ∀ a, a < 3 → ∀ b, b < 3 → a ≠ b → (TX11 a).2.1 ≠ (TX11 b).2.1 := by decide +kernel
theorem tyX11_ok : ∀ k, k < 3 → parseFieldDescriptor (TX11 k).2.2.1 = some (tyX11 k) := by decide +kernel
abbrev cX11_init : ByteArray := prog_13_method_1_code
def yX11_init : MethodName := ⟨RX11, "<init>", "()V"⟩
abbrev cX11_add : ByteArray := prog_13_method_2_code
def yX11_add : MethodName := ⟨RX11, "add", "(IZ)V"⟩
abbrev cX11_clear : ByteArray := prog_13_method_3_code
def yX11_clear : MethodName := ⟨RX11, "clear", "()V"⟩
abbrev cX11_fitting : ByteArray := prog_13_method_4_code
def yX11_fitting : MethodName := ⟨RX11, "fitting", "(LLullabyDebts$Mountain;)I"⟩
abbrev cX11_bestQuestion : ByteArray := prog_13_method_5_code
def yX11_bestQuestion : MethodName := ⟨RX11, "bestQuestion", "(LLullabyDebts$Mountain;)I"⟩
abbrev cX11_allFit : ByteArray := prog_13_method_6_code
def yX11_allFit : MethodName := ⟨RX11, "allFit", "(I)Z"⟩
abbrev cX11_owingAtLeast : ByteArray := prog_13_method_7_code
def yX11_owingAtLeast : MethodName := ⟨RX11, "owingAtLeast", "(IILLullabyDebts$Night;)I"⟩
def RX12 : String := "LullabyDebts"
def TX12 : u_T := fun k => match k with
  | 0 => ("LullabyDebts", "reader", "LLullabyDebts$Reader;", true)
  | 1 => ("LullabyDebts", "mountain", "LLullabyDebts$Mountain;", true)
  | 2 => ("LullabyDebts", "planner", "LLullabyDebts$Planner;", true)
  | 3 => ("LullabyDebts", "rounder", "LLullabyDebts$Rounder;", true)
  | 4 => ("LullabyDebts", "past", "LLullabyDebts$Past;", true)
  | 5 => ("LullabyDebts", "tellings", "LLullabyDebts$Tellings;", true)
  | 6 => ("LullabyDebts", "book", "LLullabyDebts$Book;", true)
  | 7 => ("LullabyDebts", "draws", "LLullabyDebts$Draws;", true)
  | 8 => ("LullabyDebts", "images", "[LLullabyDebts$Image;", true)
  | _ => ("LullabyDebts", "spare", "LLullabyDebts$Row;", false)
def tyX12 : Nat → FieldType := fun k => match k with
  | 0 => .object "LullabyDebts$Reader"
  | 1 => .object "LullabyDebts$Mountain"
  | 2 => .object "LullabyDebts$Planner"
  | 3 => .object "LullabyDebts$Rounder"
  | 4 => .object "LullabyDebts$Past"
  | 5 => .object "LullabyDebts$Tellings"
  | 6 => .object "LullabyDebts$Book"
  | 7 => .object "LullabyDebts$Draws"
  | 8 => .array (.object "LullabyDebts$Image")
  | _ => .object "LullabyDebts$Row"
abbrev wsX120 : List Cond := u_ws RX12 TX12 10
theorem nmX12 : ∀ a, a < 10 → ∀ b, b < 10 → a ≠ b → (TX12 a).2.1 ≠ (TX12 b).2.1 := by decide +kernel
theorem tyX12_ok : ∀ k, k < 10 → parseFieldDescriptor (TX12 k).2.2.1 = some (tyX12 k) := by decide +kernel
abbrev cX12_init : ByteArray := prog_1_method_1_code
def yX12_init : MethodName := ⟨RX12, "<init>", "()V"⟩
abbrev cX12_feed : ByteArray := prog_1_method_2_code
def yX12_feed : MethodName := ⟨RX12, "feed", "(I)I"⟩
abbrev cX12_row : ByteArray := prog_1_method_3_code
def yX12_row : MethodName := ⟨RX12, "row", "()I"⟩
abbrev cX12_fault : ByteArray := prog_1_method_4_code
def yX12_fault : MethodName := ⟨RX12, "fault", "()I"⟩
abbrev cX12_told : ByteArray := prog_1_method_5_code
def yX12_told : MethodName := ⟨RX12, "told", "(I)I"⟩
abbrev cX12_singer : ByteArray := prog_1_method_6_code
def yX12_singer : MethodName := ⟨RX12, "singer", "(II)I"⟩
abbrev cX12_child : ByteArray := prog_1_method_7_code
def yX12_child : MethodName := ⟨RX12, "child", "(II)I"⟩
abbrev cX12_go : ByteArray := prog_1_method_8_code
def yX12_go : MethodName := ⟨RX12, "go", "(II)I"⟩
abbrev cX12_sing : ByteArray := prog_1_method_9_code
def yX12_sing : MethodName := ⟨RX12, "sing", "(II)I"⟩
abbrev cX12_carry : ByteArray := prog_1_method_10_code
def yX12_carry : MethodName := ⟨RX12, "carry", "(II)I"⟩
abbrev cX12_evening : ByteArray := prog_1_method_11_code
def yX12_evening : MethodName := ⟨RX12, "evening", "(I)I"⟩
abbrev cX12_drift : ByteArray := prog_1_method_12_code
def yX12_drift : MethodName := ⟨RX12, "drift", "(I)I"⟩
abbrev cX12_undo : ByteArray := prog_1_method_13_code
def yX12_undo : MethodName := ⟨RX12, "undo", "(I)I"⟩
abbrev cX12_steps : ByteArray := prog_1_method_14_code
def yX12_steps : MethodName := ⟨RX12, "steps", "(II)I"⟩
abbrev cX12_can : ByteArray := prog_1_method_15_code
def yX12_can : MethodName := ⟨RX12, "can", "(II)I"⟩
abbrev cX12_pays : ByteArray := prog_1_method_16_code
def yX12_pays : MethodName := ⟨RX12, "pays", "(II)I"⟩
abbrev cX12_plan : ByteArray := prog_1_method_17_code
def yX12_plan : MethodName := ⟨RX12, "plan", "(I)I"⟩
abbrev cX12_round : ByteArray := prog_1_method_18_code
def yX12_round : MethodName := ⟨RX12, "round", "(II)I"⟩
abbrev cX12_colic : ByteArray := prog_1_method_19_code
def yX12_colic : MethodName := ⟨RX12, "colic", "(II)I"⟩
abbrev cX12_owed : ByteArray := prog_1_method_20_code
def yX12_owed : MethodName := ⟨RX12, "owed", "(IZ)I"⟩
abbrev cX12_couldBe : ByteArray := prog_1_method_21_code
def yX12_couldBe : MethodName := ⟨RX12, "couldBe", "()I"⟩
abbrev cX12_ask : ByteArray := prog_1_method_22_code
def yX12_ask : MethodName := ⟨RX12, "ask", "()I"⟩
abbrev cX12_write : ByteArray := prog_1_method_23_code
def yX12_write : MethodName := ⟨RX12, "write", "(II)I"⟩
abbrev cX12_judge : ByteArray := prog_1_method_24_code
def yX12_judge : MethodName := ⟨RX12, "judge", "()I"⟩
abbrev cX12_tear : ByteArray := prog_1_method_25_code
def yX12_tear : MethodName := ⟨RX12, "tear", "()I"⟩
abbrev cX12_seed : ByteArray := prog_1_method_26_code
def yX12_seed : MethodName := ⟨RX12, "seed", "(I)I"⟩
abbrev cX12_keep : ByteArray := prog_1_method_27_code
def yX12_keep : MethodName := ⟨RX12, "keep", "(I)I"⟩
abbrev cX12_goBack : ByteArray := prog_1_method_28_code
def yX12_goBack : MethodName := ⟨RX12, "goBack", "(I)I"⟩
abbrev cX12_refuseTimes : ByteArray := prog_1_method_29_code
def yX12_refuseTimes : MethodName := ⟨RX12, "refuseTimes", "(I)I"⟩
abbrev cX12_doByDraws : ByteArray := prog_1_method_30_code
def yX12_doByDraws : MethodName := ⟨RX12, "doByDraws", "()V"⟩
def RX13 : String := "LullabyDebtsModel"
def TX13 : u_T := fun k => match k with
  | 0 => ("LullabyDebtsModel", "text", "[I", true)
  | 1 => ("LullabyDebtsModel", "typed", "I", false)
  | 2 => ("LullabyDebtsModel", "place", "I", false)
  | 3 => ("LullabyDebtsModel", "houses", "I", false)
  | 4 => ("LullabyDebtsModel", "songs", "I", false)
  | 5 => ("LullabyDebtsModel", "singers", "I", false)
  | 6 => ("LullabyDebtsModel", "children", "I", false)
  | 7 => ("LullabyDebtsModel", "voices", "[I", true)
  | 8 => ("LullabyDebtsModel", "homes", "[I", true)
  | 9 => ("LullabyDebtsModel", "kinds", "[I", true)
  | 10 => ("LullabyDebtsModel", "slow", "[I", true)
  | 11 => ("LullabyDebtsModel", "now", "[I", true)
  | 12 => ("LullabyDebtsModel", "was", "[I", true)
  | 13 => ("LullabyDebtsModel", "deeds", "I", false)
  | 14 => ("LullabyDebtsModel", "seed", "J", false)
  | 15 => ("LullabyDebtsModel", "images", "[I", true)
  | 16 => ("LullabyDebtsModel", "seeds", "[J", true)
  | 17 => ("LullabyDebtsModel", "hasImage", "[I", true)
  | 18 => ("LullabyDebtsModel", "asked", "[I", true)
  | 19 => ("LullabyDebtsModel", "many", "I", false)
  | 20 => ("LullabyDebtsModel", "book", "[I", true)
  | 21 => ("LullabyDebtsModel", "entries", "I", false)
  | 22 => ("LullabyDebtsModel", "at", "I", false)
  | 23 => ("LullabyDebtsModel", "sort", "I", false)
  | 24 => ("LullabyDebtsModel", "newHouses", "I", false)
  | 25 => ("LullabyDebtsModel", "newSongs", "I", false)
  | 26 => ("LullabyDebtsModel", "newSingers", "I", false)
  | 27 => ("LullabyDebtsModel", "newChildren", "I", false)
  | 28 => ("LullabyDebtsModel", "read", "[I", true)
  | 29 => ("LullabyDebtsModel", "most", "[I", true)
  | 30 => ("LullabyDebtsModel", "longest", "I", false)
  | 31 => ("LullabyDebtsModel", "figures", "I", false)
  | 32 => ("LullabyDebtsModel", "tried", "[I", true)
  | 33 => ("LullabyDebtsModel", "houseAt", "[I", true)
  | 34 => ("LullabyDebtsModel", "leftAt", "[I", true)
  | 35 => ("LullabyDebtsModel", "debtAt", "[I", true)
  | 36 => ("LullabyDebtsModel", "goneAt", "[I", true)
  | _ => ("LullabyDebtsModel", "numberAt", "[I", true)
def tyX13 : Nat → FieldType := fun k => match k with
  | 0 => .array .int
  | 1 => .int
  | 2 => .int
  | 3 => .int
  | 4 => .int
  | 5 => .int
  | 6 => .int
  | 7 => .array .int
  | 8 => .array .int
  | 9 => .array .int
  | 10 => .array .int
  | 11 => .array .int
  | 12 => .array .int
  | 13 => .int
  | 14 => .long
  | 15 => .array .int
  | 16 => .array .long
  | 17 => .array .int
  | 18 => .array .int
  | 19 => .int
  | 20 => .array .int
  | 21 => .int
  | 22 => .int
  | 23 => .int
  | 24 => .int
  | 25 => .int
  | 26 => .int
  | 27 => .int
  | 28 => .array .int
  | 29 => .array .int
  | 30 => .int
  | 31 => .int
  | 32 => .array .int
  | 33 => .array .int
  | 34 => .array .int
  | 35 => .array .int
  | 36 => .array .int
  | _ => .array .int
abbrev wsX130 : List Cond := u_ws RX13 TX13 38
theorem nmX13 : ∀ a, a < 38 → ∀ b, b < 38 → a ≠ b → (TX13 a).2.1 ≠ (TX13 b).2.1 := by decide +kernel
theorem tyX13_ok : ∀ k, k < 38 → parseFieldDescriptor (TX13 k).2.2.1 = some (tyX13 k) := by decide +kernel
abbrev cX13_init : ByteArray := prog_15_method_1_code
def yX13_init : MethodName := ⟨RX13, "<init>", "()V"⟩
abbrev cX13_max : ByteArray := prog_15_method_2_code
def yX13_max : MethodName := ⟨RX13, "max", "(II)I"⟩
abbrev cX13_min : ByteArray := prog_15_method_3_code
def yX13_min : MethodName := ⟨RX13, "min", "(II)I"⟩
abbrev cX13_apart : ByteArray := prog_15_method_4_code
def yX13_apart : MethodName := ⟨RX13, "apart", "(II)I"⟩
abbrev cX13_isSinger : ByteArray := prog_15_method_5_code
def yX13_isSinger : MethodName := ⟨RX13, "isSinger", "(I)Z"⟩
abbrev cX13_isChild : ByteArray := prog_15_method_6_code
def yX13_isChild : MethodName := ⟨RX13, "isChild", "(I)Z"⟩
abbrev cX13_feed : ByteArray := prog_15_method_7_code
def yX13_feed : MethodName := ⟨RX13, "feed", "(I)I"⟩
abbrev cX13_skips : ByteArray := prog_15_method_8_code
def yX13_skips : MethodName := ⟨RX13, "skips", "()V"⟩
abbrev cX13_faults : ByteArray := prog_15_method_9_code
def yX13_faults : MethodName := ⟨RX13, "faults", "(II)V"⟩
abbrev cX13_isFigure : ByteArray := prog_15_method_10_code
def yX13_isFigure : MethodName := ⟨RX13, "isFigure", "()Z"⟩
abbrev cX13_number : ByteArray := prog_15_method_11_code
def yX13_number : MethodName := ⟨RX13, "number", "(II)I"⟩
abbrev cX13_clause : ByteArray := prog_15_method_12_code
def yX13_clause : MethodName := ⟨RX13, "clause", "(Z)V"⟩
abbrev cX13_reads : ByteArray := prog_15_method_13_code
def yX13_reads : MethodName := ⟨RX13, "reads", "()V"⟩
abbrev cX13_row : ByteArray := prog_15_method_14_code
def yX13_row : MethodName := ⟨RX13, "row", "()I"⟩
abbrev cX13_fault : ByteArray := prog_15_method_15_code
def yX13_fault : MethodName := ⟨RX13, "fault", "()I"⟩
abbrev cX13_sets : ByteArray := prog_15_method_16_code
def yX13_sets : MethodName := ⟨RX13, "sets", "(I)I"⟩
abbrev cX13_owedByAll : ByteArray := prog_15_method_17_code
def yX13_owedByAll : MethodName := ⟨RX13, "owedByAll", "()I"⟩
abbrev cX13_last : ByteArray := prog_15_method_18_code
def yX13_last : MethodName := ⟨RX13, "last", "()I"⟩
abbrev cX13_hardest : ByteArray := prog_15_method_19_code
def yX13_hardest : MethodName := ⟨RX13, "hardest", "()I"⟩
abbrev cX13_spread : ByteArray := prog_15_method_20_code
def yX13_spread : MethodName := ⟨RX13, "spread", "()I"⟩
abbrev cX13_willDefault : ByteArray := prog_15_method_21_code
def yX13_willDefault : MethodName := ⟨RX13, "willDefault", "()I"⟩
abbrev cX13_told : ByteArray := prog_15_method_22_code
def yX13_told : MethodName := ⟨RX13, "told", "(I)I"⟩
abbrev cX13_singer : ByteArray := prog_15_method_23_code
def yX13_singer : MethodName := ⟨RX13, "singer", "(II)I"⟩
abbrev cX13_child : ByteArray := prog_15_method_24_code
def yX13_child : MethodName := ⟨RX13, "child", "(II)I"⟩
abbrev cX13_needs : ByteArray := prog_15_method_25_code
def yX13_needs : MethodName := ⟨RX13, "needs", "(I)I"⟩
abbrev cX13_pay : ByteArray := prog_15_method_26_code
def yX13_pay : MethodName := ⟨RX13, "pay", "(II)I"⟩
abbrev cX13_remembers : ByteArray := prog_15_method_27_code
def yX13_remembers : MethodName := ⟨RX13, "remembers", "()V"⟩
abbrev cX13_go : ByteArray := prog_15_method_28_code
def yX13_go : MethodName := ⟨RX13, "go", "(II)I"⟩
abbrev cX13_may : ByteArray := prog_15_method_29_code
def yX13_may : MethodName := ⟨RX13, "may", "(II)Z"⟩
abbrev cX13_sings : ByteArray := prog_15_method_30_code
def yX13_sings : MethodName := ⟨RX13, "sings", "(II)I"⟩
abbrev cX13_sing : ByteArray := prog_15_method_31_code
def yX13_sing : MethodName := ⟨RX13, "sing", "(II)I"⟩
abbrev cX13_canBeCarried : ByteArray := prog_15_method_32_code
def yX13_canBeCarried : MethodName := ⟨RX13, "canBeCarried", "(II)Z"⟩
abbrev cX13_carries : ByteArray := prog_15_method_33_code
def yX13_carries : MethodName := ⟨RX13, "carries", "(II)V"⟩
abbrev cX13_carry : ByteArray := prog_15_method_34_code
def yX13_carry : MethodName := ⟨RX13, "carry", "(II)I"⟩
abbrev cX13_ends : ByteArray := prog_15_method_35_code
def yX13_ends : MethodName := ⟨RX13, "ends", "()V"⟩
abbrev cX13_mayPass : ByteArray := prog_15_method_36_code
def yX13_mayPass : MethodName := ⟨RX13, "mayPass", "(I)I"⟩
abbrev cX13_evening : ByteArray := prog_15_method_37_code
def yX13_evening : MethodName := ⟨RX13, "evening", "(I)I"⟩
abbrev cX13_draw : ByteArray := prog_15_method_38_code
def yX13_draw : MethodName := ⟨RX13, "draw", "(I)I"⟩
abbrev cX13_drifts : ByteArray := prog_15_method_39_code
def yX13_drifts : MethodName := ⟨RX13, "drifts", "()V"⟩
abbrev cX13_drift : ByteArray := prog_15_method_40_code
def yX13_drift : MethodName := ⟨RX13, "drift", "(I)I"⟩
abbrev cX13_undo : ByteArray := prog_15_method_41_code
def yX13_undo : MethodName := ⟨RX13, "undo", "(I)I"⟩
abbrev cX13_steps : ByteArray := prog_15_method_42_code
def yX13_steps : MethodName := ⟨RX13, "steps", "(II)I"⟩
abbrev cX13_could : ByteArray := prog_15_method_43_code
def yX13_could : MethodName := ⟨RX13, "could", "(II)Z"⟩
abbrev cX13_payment : ByteArray := prog_15_method_44_code
def yX13_payment : MethodName := ⟨RX13, "payment", "(II)I"⟩
abbrev cX13_can : ByteArray := prog_15_method_45_code
def yX13_can : MethodName := ⟨RX13, "can", "(II)I"⟩
abbrev cX13_pays : ByteArray := prog_15_method_46_code
def yX13_pays : MethodName := ⟨RX13, "pays", "(II)I"⟩
abbrev cX13_worth : ByteArray := prog_15_method_47_code
def yX13_worth : MethodName := ⟨RX13, "worth", "(IIZ)I"⟩
abbrev cX13_plans : ByteArray := prog_15_method_48_code
def yX13_plans : MethodName := ⟨RX13, "plans", "(Z)V"⟩
abbrev cX13_plan : ByteArray := prog_15_method_49_code
def yX13_plan : MethodName := ⟨RX13, "plan", "(I)I"⟩
abbrev cX13_rounds : ByteArray := prog_15_method_50_code
def yX13_rounds : MethodName := ⟨RX13, "rounds", "(I)V"⟩
abbrev cX13_round : ByteArray := prog_15_method_51_code
def yX13_round : MethodName := ⟨RX13, "round", "(II)I"⟩
abbrev cX13_never : ByteArray := prog_15_method_52_code
def yX13_never : MethodName := ⟨RX13, "never", "(I)I"⟩
abbrev cX13_colic : ByteArray := prog_15_method_53_code
def yX13_colic : MethodName := ⟨RX13, "colic", "(II)I"⟩
abbrev cX13_owed : ByteArray := prog_15_method_54_code
def yX13_owed : MethodName := ⟨RX13, "owed", "(IZ)I"⟩
abbrev cX13_couldBe : ByteArray := prog_15_method_55_code
def yX13_couldBe : MethodName := ⟨RX13, "couldBe", "()I"⟩
abbrev cX13_ask : ByteArray := prog_15_method_56_code
def yX13_ask : MethodName := ⟨RX13, "ask", "()I"⟩
abbrev cX13_write : ByteArray := prog_15_method_57_code
def yX13_write : MethodName := ⟨RX13, "write", "(II)I"⟩
abbrev cX13_judge : ByteArray := prog_15_method_58_code
def yX13_judge : MethodName := ⟨RX13, "judge", "()I"⟩
abbrev cX13_tear : ByteArray := prog_15_method_59_code
def yX13_tear : MethodName := ⟨RX13, "tear", "()I"⟩
abbrev cX13_seed : ByteArray := prog_15_method_60_code
def yX13_seed : MethodName := ⟨RX13, "seed", "(I)I"⟩
abbrev cX13_keep : ByteArray := prog_15_method_61_code
def yX13_keep : MethodName := ⟨RX13, "keep", "(I)I"⟩
abbrev cX13_goBack : ByteArray := prog_15_method_62_code
def yX13_goBack : MethodName := ⟨RX13, "goBack", "(I)I"⟩
def RJ6 : String := "java/lang/Integer"
def TJ6 : u_T := fun k => match k with
  | _ => ("", "", "", false)
def tyJ6 : Nat → FieldType := fun k => match k with
  | _ => .int
abbrev wsJ60 : List Cond := u_ws RJ6 TJ6 0
theorem nmJ6 : ∀ a, a < 0 → ∀ b, b < 0 → a ≠ b → (TJ6 a).2.1 ≠ (TJ6 b).2.1 := by decide +kernel
theorem tyJ6_ok : ∀ k, k < 0 → parseFieldDescriptor (TJ6 k).2.2.1 = some (tyJ6 k) := by decide +kernel
abbrev cJ6_bitCount_0f7a4 : ByteArray := prog_16_method_49_code
def yJ6_bitCount_0f7a4 : MethodName := ⟨RJ6, "bitCount", "(I)I"⟩
def RJ9 : String := "java/lang/Math"
def TJ9 : u_T := fun k => match k with
  | _ => ("", "", "", false)
def tyJ9 : Nat → FieldType := fun k => match k with
  | _ => .int
abbrev wsJ90 : List Cond := u_ws RJ9 TJ9 0
theorem nmJ9 : ∀ a, a < 0 → ∀ b, b < 0 → a ≠ b → (TJ9 a).2.1 ≠ (TJ9 b).2.1 := by decide +kernel
theorem tyJ9_ok : ∀ k, k < 0 → parseFieldDescriptor (TJ9 k).2.2.1 = some (tyJ9 k) := by decide +kernel
abbrev cJ9_floorMod_7cf53 : ByteArray := prog_17_method_50_code
def yJ9_floorMod_7cf53 : MethodName := ⟨RJ9, "floorMod", "(II)I"⟩
abbrev cJ9_abs_0f7a4 : ByteArray := prog_17_method_59_code
def yJ9_abs_0f7a4 : MethodName := ⟨RJ9, "abs", "(I)I"⟩
abbrev cJ9_max_7cf53 : ByteArray := prog_17_method_65_code
def yJ9_max_7cf53 : MethodName := ⟨RJ9, "max", "(II)I"⟩
abbrev cJ9_min_7cf53 : ByteArray := prog_17_method_69_code
def yJ9_min_7cf53 : MethodName := ⟨RJ9, "min", "(II)I"⟩
def RJ10 : String := "java/lang/System"
def TJ10 : u_T := fun k => match k with
  | _ => ("", "", "", false)
def tyJ10 : Nat → FieldType := fun k => match k with
  | _ => .int
abbrev wsJ100 : List Cond := u_ws RJ10 TJ10 0
theorem nmJ10 : ∀ a, a < 0 → ∀ b, b < 0 → a ≠ b → (TJ10 a).2.1 ≠ (TJ10 b).2.1 := by decide +kernel
theorem tyJ10_ok : ∀ k, k < 0 → parseFieldDescriptor (TJ10 k).2.2.1 = some (tyJ10 k) := by decide +kernel
def RL : String := "LullabyDebtsLaw"
abbrev cL_law : ByteArray := code
def yL_law : MethodName := ⟨RL, "law", "([I)Z"⟩
abbrev vwCl : List vw_C := [(RX0, TX0, 3), (RX1, TX1, 1), (RX2, TX2, 3), (RX3, TX3, 2), (RX4, TX4, 11), (RX6, TX6, 3), (RX7, TX7, 4), (RX8, TX8, 5), (RX9, TX9, 6), (RX10, TX10, 11), (RX11, TX11, 3), (RX12, TX12, 10), (RX13, TX13, 38)]
/-- the private constructors that nest mates call -/
def nsl : List (String × Nat × MethodName × String) := [(RX12, 9, yX8_init, "LullabyDebts"), (RX12, 18, yX3_init, "LullabyDebts"), (RX3, 11, yX4_init, "LullabyDebts"), (RX3, 20, yX10_init, "LullabyDebts"), (RX12, 25, yX7_init, "LullabyDebts"), (RX12, 32, yX9_init, "LullabyDebts"), (RX6, 17, yX4_init, "LullabyDebts"), (RX12, 46, yX11_init, "LullabyDebts"), (RX12, 53, yX0_init, "LullabyDebts"), (RX12, 60, yX1_init, "LullabyDebts"), (RX12, 73, yX10_init, "LullabyDebts"), (RX12, 78, yX2_init, "LullabyDebts"), (RX2, 9, yX4_init, "LullabyDebts")]
end
section
/-! abstract heap: a list of cells; an object: (class number in vwCl, fields); an array: (kind, length, contents); references are places in the list -/
abbrev AH : Type := List va_E
abbrev Lv : Type := List (Nat × Value)
/-- a method: class, name, bytes, locals, what it returns -/
abbrev MD : Type := String × MethodName × ByteArray × Nat × Option FieldType
abbrev SX : Type := Nat × (Nat → Int32)
/-- the words that are kept over a call -/
def lwg : List Cond := lw_tbl.filter goodWord
theorem lwg_mem {w : Cond} (i : Nat) (h : lw_tbl[i]? = some w) (hg : goodWord w = true) : w ∈ lwg := List.mem_filter.mpr ⟨List.mem_of_getElem? h, hg⟩
theorem lwg_good {w : Cond} (h : w ∈ lwg) : GoodIn lwg (w :: lwg) := by
  intro v hv
  rcases List.mem_cons.mp hv with rfl | hv
  · exact ⟨h, good_of_word (List.mem_filter.mp h).2⟩
  · exact ⟨hv, good_of_word (List.mem_filter.mp hv).2⟩
/-- what else is known of the tables: links to nest mates, arrays of objects -/
def Nws (U : State) : Prop := (∀ q ∈ nsl, va_Nw (.methodLinkNest q.1 q.2.1 q.2.2.1 q.2.2.2) U) ∧ va_AO RX4 U ∧ va_AO RX2 U
theorem Nws.warm {s U : State} (hW : s.WarmedH U.vm) (h : Nws s) : Nws U := ⟨fun q hq => (h.1 q hq).warmM hW, h.2.1.moved hW.alike, h.2.2.moved hW.alike⟩
/-- a value as the machine has it: references by base; the script's reference stands as a float -/
def shv (base b : Nat) : Value → Value
  | .ref k => .ref (base + k)
  | .float _ => .ref b
  | v => v
def she (base b : Nat) (cA : Nat → ClassId) : va_E → va_E
  | .inl (q, n, .inl f) => .inl (cA q, n, .inl f)
  | .inl (q, n, .inr (.inl f)) => .inl (cA q, n, .inr (.inl f))
  | .inl (q, n, .inr (.inr (.inl f))) => .inl (cA q, n, .inr (.inr (.inl f)))
  | .inl (q, n, .inr (.inr (.inr (.inl f)))) => .inl (cA q, n, .inr (.inr (.inr (.inl f))))
  | .inl (q, n, .inr (.inr (.inr (.inr f)))) => .inl (cA q, n, .inr (.inr (.inr (.inr (fun i => (f i).map (fun a => base + a))))))
  | .inr (ci, fs) => .inr (ci, fs.map (shv base b))
def con (base b : Nat) (cA : Nat → ClassId) : Nat → AH → va_W
  | _, [] => []
  | i, e :: h => (base + i, she base b cA e) :: con base b cA (i + 1) h
theorem con_get {base b : Nat} {cA : Nat → ClassId} : ∀ (h : AH) (i k : Nat), (con base b cA i h)[k]? = (h[k]?).map (fun e => (base + (i + k), she base b cA e))
  | [], i, k => by simp [con]
  | e :: h, i, 0 => by simp [con]
  | e :: h, i, k + 1 => by
    simp only [con, List.getElem?_cons_succ]
    rw [con_get h (i + 1) k, Nat.add_right_comm i 1 k, Nat.add_assoc]
theorem con_set {base b : Nat} {cA : Nat → ClassId} : ∀ (h : AH) (i k : Nat) (e : va_E), con base b cA i (h.set k e) = (con base b cA i h).set k (base + (i + k), she base b cA e)
  | [], i, k, e => by simp [con]
  | x :: h, i, 0, e => by simp [con]
  | x :: h, i, k + 1, e => by
    simp only [con, List.set_cons_succ]
    rw [con_set h (i + 1) k e, Nat.add_right_comm i 1 k, Nat.add_assoc]
theorem con_app {base b : Nat} {cA : Nat → ClassId} : ∀ (h : AH) (i : Nat) (e : va_E), con base b cA i (h ++ [e]) = con base b cA i h ++ [(base + (i + h.length), she base b cA e)]
  | [], i, e => by simp [con]
  | x :: h, i, e => by
    simp only [con, List.cons_append, List.length_cons]
    rw [con_app h (i + 1) e, Nat.add_right_comm i 1 h.length, Nat.add_assoc i]
theorem con_at {base b : Nat} {cA : Nat → ClassId} {h : AH} {k : Nat} {e : va_E} (hk : h[k]? = some e) : (con base b cA 0 h)[k]? = some (base + k, she base b cA e) := by
  rw [con_get, hk, Nat.zero_add]; rfl
theorem con_D {base b : Nat} {cA : Nat → ClassId} (h : AH) : va_D (fun q => base ≤ q) (con base b cA 0 h) := by
  have key : ∀ (k : Nat) (q : Nat × va_E), (con base b cA 0 h)[k]? = some q → q.1 = base + k := by
    intro k q hk
    rw [con_get] at hk
    obtain ⟨e, -, he⟩ := Option.map_eq_some_iff.mp hk
    rw [← he, Nat.zero_add]
  refine ⟨fun i j x y hi hj hxy => ?_, fun k q hk => ?_⟩
  · have h1 := key i x hi
    have h2 := key j y hj
    omega
  · have h1 := key k q hk
    show base ≤ q.1
    omega
def ces : va_E → Nat
  | .inl (_, n, _) => n
  | .inr (_, fs) => fs.length
def asz (h : AH) : Nat := (h.map ces).sum
theorem asz_app (h : AH) (e : va_E) : asz (h ++ [e]) = asz h + ces e := by simp [asz]
theorem asz_set : ∀ (h : AH) (k : Nat) (e0 e : va_E), h[k]? = some e0 → ces e = ces e0 → asz (h.set k e) = asz h
  | [], k, e0, e, hk, _ => by simp at hk
  | x :: h, 0, e0, e, hk, he => by
    rw [List.getElem?_cons_zero] at hk
    cases hk
    simp [asz, he]
  | x :: h, k + 1, e0, e, hk, he => by
    rw [List.getElem?_cons_succ] at hk
    have := asz_set h k e0 e hk he
    simp only [asz, List.set_cons_succ, List.map_cons, List.sum_cons] at this ⊢
    omega
def tyl (cA : Nat → ClassId) : List (ClassId × FieldType) := [(cA 0, .int), (cA 1, .char), (cA 2, .boolean), (cA 3, .long), (cA 4, .object RX4), (cA 5, .object RX2)]
/-- the machine's heap holds the abstract one, from base on, and nothing behind it -/
def Hp (dC : Nat → ClassId) (dI : Nat → Nat → Nat) (cA : Nat → ClassId) (base b : Nat) (h : AH) (H : Heap) : Prop := va_P (dC, dI) vwCl (con base b cA 0 h) H ∧ H.size = base + h.length
def Kx (X : SX) (dC : Nat → ClassId) (dI : Nat → Nat → Nat) (cA : Nat → ClassId) (base b : Nat) (U : State) (H : Heap) : Prop := va_K (dC, dI) vwCl (tyl cA) U ∧ (va_X b X.1 X.2 U H ∧ b < base) ∧ Nws U
def Mf (M : MD) (p : Program) (s : State) (m : MethodId) (args : Array Value) (meth : Method) (c : Code) : Prop :=
  p.tables.exec = Jvm.exec ∧ c.code = M.2.2.1 ∧ c.maxLocals = M.2.2.2.1 ∧ meth.sig.returnType = M.2.2.2.2 ∧ meth.locks = false ∧ s.vm.findClass M.1 = some m.cls ∧ meth.name = M.2.1.name ∧ ∀ w ∈ lwg, w.before args s = true
def Qx (X : SX) (dC : Nat → ClassId) (dI : Nat → Nat → Nat) (cA : Nat → ClassId) (base b : Nat) (rv : Option Int32) (h' : AH) : Array Value → State → Outcome → State → Prop := fun _ st o t =>
  o = .returned (rv.map .int) ∧ Hp dC dI cA base b h' t.heap ∧ Kx X dC dI cA base b t t.heap ∧ va_F (fun q => base ≤ q) st t
def shl (base b : Nat) (lv : Lv) : Lv := lv.map (fun q => (q.1, shv base b q.2))
/-- all that a frame stands on -/
def Cx (X : SX) (M : MD) (d : Nat) (lv : Lv) (h h' : AH) (dC : Nat → ClassId) (dI : Nat → Nat → Nat) (cA : Nat → ClassId) (base b : Nat) (p : Program) (R : Room) (s : State) (m : MethodId) (args : Array Value) (meth : Method) (c : Code) (H : Heap) (locs : List Loc) (cells slots mc ms : Nat) (ls : Array Slot) : Prop :=
  Mf M p s m args meth c ∧ Kx X dC dI cA base b s H ∧ Hp dC dI cA base b h H ∧ va_S (fun q => base ≤ q) s.heap H locs ∧ base ≤ s.heap.size ∧ lv_has ls M.2.2.2.1 (shl base b lv) ∧ (d ≤ R.frames ∧ 64 * d ≤ R.locals) ∧ (cells + h'.length ≤ mc + h.length ∧ slots + asz h' ≤ ms + asz h) ∧ (mc ≤ R.cells ∧ ms ≤ R.slots)
/-- from here on the method returns rv, and the heap is h' then -/
def G (X : SX) (M : MD) (d pc : Nat) (lv : Lv) (st : List Value) (h : AH) (rv : Option Int32) (h' : AH) : Prop :=
  (h.length ≤ h'.length ∧ asz h ≤ asz h') ∧
  ∀ (l : Launch) (dC : Nat → ClassId) (dI : Nat → Nat → Nat) (cA : Nat → ClassId) (base b : Nat) (p : Program) (e : Env) (R : Room) (s : State) (m : MethodId) (args : Array Value) (below : List Frame) (meth : Method) (c : Code) (H : Heap) (locs : List Loc) (cells slots mc ms : Nat) (ls : Array Slot),
    Cx X M d lv h h' dC dI cA base b p R s m args meth c H locs cells slots mc ms ls →
    W p l e R s m args below meth c H locs cells slots (MQ below (Qx X dC dI cA base b rv h') args s mc ms (fun q => base ≤ q)) (F0 m pc ls (st.map (shv base b)))
/-! reading and writing the abstract heap -/
def oget (h : AH) (ci a k : Nat) : Option Value := match h[a]? with
  | some (.inr (c, fs)) => if c = ci then fs[k]? else none
  | _ => none
def gi (h : AH) (ci a k : Nat) : Option Int32 := match oget h ci a k with
  | some (.int x) => some x
  | _ => none
def gl (h : AH) (ci a k : Nat) : Option Int64 := match oget h ci a k with
  | some (.long x) => some x
  | _ => none
def gr (h : AH) (ci a k : Nat) : Option Nat := match oget h ci a k with
  | some (.ref x) => some x
  | _ => none
def pf (h : AH) (ci a k : Nat) (v : Value) : Option AH := match h[a]? with
  | some (.inr (c, fs)) => if c = ci ∧ k < fs.length then some (h.set a (.inr (c, fs.set k v))) else none
  | _ => none
def inb (i : Int32) (n : Nat) : Prop := ¬ (i < 0 ∨ n ≤ i.toNatClampNeg)
def ai (h : AH) (kd a : Nat) (i : Int32) : Option Int32 := match h[a]? with
  | some (.inl (q, n, .inl f)) => if q = kd ∧ ¬ (i < 0 ∨ n ≤ i.toNatClampNeg) then some (f i.toNatClampNeg) else none
  | _ => none
def al (h : AH) (kd a : Nat) (i : Int32) : Option Int64 := match h[a]? with
  | some (.inl (q, n, .inr (.inl f))) => if q = kd ∧ ¬ (i < 0 ∨ n ≤ i.toNatClampNeg) then some (f i.toNatClampNeg) else none
  | _ => none
def ar (h : AH) (kd a : Nat) (i : Int32) : Option Nat := match h[a]? with
  | some (.inl (q, n, .inr (.inr (.inr (.inr f))))) => if q = kd ∧ ¬ (i < 0 ∨ n ≤ i.toNatClampNeg) then f i.toNatClampNeg else none
  | _ => none
def aw (h : AH) (kd a : Nat) (i x : Int32) : Option AH := match h[a]? with
  | some (.inl (q, n, .inl f)) => if q = kd ∧ ¬ (i < 0 ∨ n ≤ i.toNatClampNeg) then some (h.set a (.inl (q, n, .inl (upd f i.toNatClampNeg x)))) else none
  | _ => none
def alw (h : AH) (kd a : Nat) (i : Int32) (x : Int64) : Option AH := match h[a]? with
  | some (.inl (q, n, .inr (.inl f))) => if q = kd ∧ ¬ (i < 0 ∨ n ≤ i.toNatClampNeg) then some (h.set a (.inl (q, n, .inr (.inl (vp_updL f i.toNatClampNeg x))))) else none
  | _ => none
/-- a reference to an object of class ci into an array of them -/
def arw (h : AH) (kd ci a : Nat) (i : Int32) (v : Nat) : Option AH := match h[a]?, h[v]? with
  | some (.inl (q, n, .inr (.inr (.inr (.inr f))))), some (.inr (c, _)) => if (q = kd ∧ c = ci) ∧ ¬ (i < 0 ∨ n ≤ i.toNatClampNeg) then some (h.set a (.inl (q, n, .inr (.inr (.inr (.inr (va_up f i.toNatClampNeg (some v)))))))) else none
  | _, _ => none
/-- arraycopy of ints -/
def acp (h : AH) (a0 : Nat) (sp : Int32) (a : Nat) (dp n : Int32) : Option AH := match h[a0]?, h[a]? with
  | some (.inl (q0, n0, .inl f)), some (.inl (q1, n1, .inl g)) => if (q0 = 0 ∧ q1 = 0) ∧ (¬ sp < 0 ∧ ¬ dp < 0 ∧ ¬ n < 0) ∧ sp.toNatClampNeg + n.toNatClampNeg ≤ n0 ∧ dp.toNatClampNeg + n.toNatClampNeg ≤ n1 then some (h.set a (.inl (q1, n1, .inl (va_cpy f g sp.toNatClampNeg dp.toNatClampNeg n.toNatClampNeg)))) else none
  | _, _ => none
end
section
section WQ
variable {p : Program} {l : Launch} {e : Env} {R : Room} {s : State} {m : MethodId} {args : Array Value} {below : List Frame} {meth : Method} {c : Code} {H : Heap} {locs : List Loc} {cells slots : Nat} {Q : State → Prop}
variable {cc : ByteArray} {pc : Nat} {ls : Array Slot} {rest : List Value} {D : va_G} {cl : List vw_C} {A : Nat → Prop} {a : Nat} {tys : List (ClassId × FieldType)} {ws : va_W} {H0 : Heap}
/-- a field is written: the world behind it, the heap's size kept, other cells kept -/
theorem wq_put (hexec : p.tables.exec = Jvm.exec) (hb : c.code = cc) {own C : String} {T : u_T} {N ci index : Nat} {Ts : List Cond} (hts : ∀ w ∈ Ts, w.before args s = true) (hin : ∀ w ∈ u_ws C T N, w ∈ Ts) (ty0 : Nat → FieldType) (hty : ∀ k, k < N → parseFieldDescriptor (T k).2.2.1 = some (ty0 k)) (hnm : ∀ a, a < N → ∀ b, b < N → a ≠ b → (T a).2.1 ≠ (T b).2.1) (hown : s.vm.findClass own = some m.cls) (hK : va_K D cl tys s) (hP : va_P D cl ws H) (hD : va_D A ws) (hS0 : va_S A H0 H locs) (q0 : Nat) {fs : List Value} (he : ws[q0]? = some (a, .inr (ci, fs))) (hc : cl[ci]? = some (C, T, N)) (k : Nat) (hk : k < N) (hlink : (Cond.fieldLink own index (T k).1 (T k).2.1 (T k).2.2.1).before args s = true)
    (hfin : (T k).2.2.2 = false ∨ ((T k).2.2.2 = true ∧ meth.name = "<init>" ∧ (T k).1 = own)) {v : Value} (hn : narrow (ty0 k) v = v) (hfit : fits (ty0 k) v = true) (hl : k < fs.length)
    (hdg : decode cc pc = .ok (.putfield index, 3)) (kk : ∀ (H1 : Heap) (locs1 : List Loc), va_P D cl (ws.set q0 (a, .inr (ci, fs.set k v))) H1 → H1.size = H.size → (∀ q : Nat, q ≠ a → H1[q]? = H[q]?) → va_S A H0 H1 locs1 → W p l e R s m args below meth c H1 locs1 cells slots Q (F0 m (pc + 3) ls rest)) : W p l e R s m args below meth c H locs cells slots Q (F0 m pc ls (v :: .ref a :: rest)) := by
  have hap := va_apart (own := own) hts hin ty0 hty hnm hK hc
  obtain ⟨r, h1, cell, q1, q2, q3, q4⟩ := hP q0 _ he
  have hr : r = (C, T, N) := Option.some.inj (h1.symm.trans hc)
  subst hr
  obtain ⟨hS, hfc, kC, hkC, hkind⟩ := hK.1 ci _ hc
  obtain ⟨cf, kf, fi, f, hi, hsl⟩ := hS k hk
  have hlay := hts _ (hin _ (u_in_lay hk))
  unfold u_lay at hlay
  have hst := (u_facts hfc hkC (u_lays hts hin hk) hi).1
  rcases hfin with hfin | ⟨hfin, hin2, hdecl⟩
  · rw [if_neg (by rw [hfin]; decide)] at hlay
    have h6 := u_store hfc hkC hkind hlay hi (hty k hk) hn hfit
    refine W.putK hexec hb (f := f) ⟨hown, hlink, ⟨_, _, _, hi⟩, hst⟩ (by rw [q2]; exact h6) q1 q3 (by rw [hsl]; exact k2_hasslot (q4 k hk)) rfl rfl hdg fun H' e1 e2 e3 => ?_
    rw [hsl] at e1 ⊢
    exact kk H' _ (hP.set hD he ⟨_, hc, t_OB.to (V := updV (vp_V fs) k v) ⟨_, e1, q2, q3, t_set q4 hap hk v⟩ (fun j _ => vp_updV_set hl v j)⟩ e3) e2 e3 (hS0.put e2 e3 (hD.2 q0 _ he))
  · rw [if_pos hfin] at hlay
    have hcf : m.cls = cf := by
      obtain ⟨_, _, c', _, _, _, -, -, hf', -, -, -, hown2, -⟩ := Cond.laysFinal_spec hlay
      have e1 : c' = cf := by have := hi.symm.trans hf'; simp at this; exact this.1.symm
      rw [hdecl] at hown2
      rw [← e1]; exact Option.some.inj (hown.symm.trans hown2)
    have h6 := u_fits hfc hkC hkind (Or.inr hlay) hi (hty k hk) hn hfit
    refine W.putFinK hexec hb hown hlink hi hst hcf hin2 (by rw [q2]; exact h6) q1 q3 (by rw [hsl]; exact k2_hasslot (q4 k hk)) rfl rfl hdg fun H' e1 e2 e3 => ?_
    rw [hsl] at e1 ⊢
    exact kk H' _ (hP.set hD he ⟨_, hc, t_OB.to (V := updV (vp_V fs) k v) ⟨_, e1, q2, q3, t_set q4 hap hk v⟩ (fun j _ => vp_updV_set hl v j)⟩ e3) e2 e3 (hS0.put e2 e3 (hD.2 q0 _ he))
theorem wq_iast (hexec : p.tables.exec = Jvm.exec) (hb : c.code = cc) (hK : va_K D cl tys s) (hP : va_P D cl ws H) (hD : va_D A ws) (hS : va_S A H0 H locs) (q0 t0 : Nat) {cA : ClassId} {n : Nat} {f : Nat → Int32} (ha : ws[q0]? = some (a, .inl (cA, n, .inl f))) {ty : FieldType} (hty : ty = .int ∨ ty = .char ∨ ty = .boolean) (ht : tys[t0]? = some (cA, ty)) {i : Int32} {x : Int32} (hin : vp_in i n) (hdg : decode cc pc = .ok (if ty = .int then .iastore else if ty = .char then .castore else .bastore, 1))
    (kk : ∀ (H1 : Heap) (locs1 : List Loc), va_P D cl (ws.set q0 (a, .inl (cA, n, .inl (upd f i.toNatClampNeg (vp_nar ty x))))) H1 → H1.size = H.size → (∀ q : Nat, q ≠ a → H1[q]? = H[q]?) → va_S A H0 H1 locs1 → W p l e R s m args below meth c H1 locs1 cells slots Q (F0 m (pc + 1) ls rest)) : W p l e R s m args below meth c H locs cells slots Q (F0 m pc ls (.int x :: .int i :: .ref a :: rest)) := by
  have done : ∀ H1 : Heap, H1[a]? = some ((vp_cell cA (n, .inl f)).setSlot i.toNatClampNeg (.int (vp_nar ty x))) → H1.size = H.size → (∀ q : Nat, q ≠ a → H1[q]? = H[q]?) → W p l e R s m args below meth c H1 (locs ++ [⟨a, i.toNatClampNeg⟩]) cells slots Q (F0 m (pc + 1) ls rest) := by
    intro H1 e z oq
    refine kk H1 _ (hP.set hD ha ?_ oq) z oq (hS.put z oq (hD.2 q0 _ ha))
    show H1[a]? = some (vp_cell _ _)
    rw [e]
    rw [vp_cell_i, vp_cell_i, arrV_store]
    congr 2
    funext q
    by_cases hq : q = i.toNatClampNeg
    · subst hq
      simp [updV, upd]
    · simp [updV, upd, hq]
  rcases hty with rfl | rfl | rfl
  · refine W.iast hexec hb (hP q0 _ ha) ((hK.2 t0 _ ht).1 n (fun j => .int (f j))) (fun q => by cases q) (by show ¬ (i < 0 ∨ (arrV _ _ _).slots.size ≤ _); rw [arrV_size]; exact hin) rfl rfl hdg fun H1 e z oq => done H1 e z oq
  · refine W.cast hexec hb (hP q0 _ ha) ((hK.2 t0 _ ht).1 n (fun j => .int (f j))) (fun q => by cases q) (by show ¬ (i < 0 ∨ (arrV _ _ _).slots.size ≤ _); rw [arrV_size]; exact hin) rfl rfl hdg fun H1 e z oq => done H1 e z oq
  · refine W.zast hexec hb (hP q0 _ ha) ((hK.2 t0 _ ht).1 n (fun j => .int (f j))) (fun q => by cases q) (by show ¬ (i < 0 ∨ (arrV _ _ _).slots.size ≤ _); rw [arrV_size]; exact hin) rfl rfl hdg fun H1 e z oq => done H1 e z oq
theorem wq_last (hexec : p.tables.exec = Jvm.exec) (hb : c.code = cc) (hK : va_K D cl tys s) (hP : va_P D cl ws H) (hD : va_D A ws) (hS : va_S A H0 H locs) (q0 t0 : Nat) {cA : ClassId} {n : Nat} {f : Nat → Int64} (ha : ws[q0]? = some (a, .inl (cA, n, .inr (.inl f)))) (ht : tys[t0]? = some (cA, .long)) {i : Int32} {x : Int64} (hin : vp_in i n) (hdg : decode cc pc = .ok (.lastore, 1))
    (kk : ∀ (H1 : Heap) (locs1 : List Loc), va_P D cl (ws.set q0 (a, .inl (cA, n, .inr (.inl (vp_updL f i.toNatClampNeg x))))) H1 → H1.size = H.size → (∀ q : Nat, q ≠ a → H1[q]? = H[q]?) → va_S A H0 H1 locs1 → W p l e R s m args below meth c H1 locs1 cells slots Q (F0 m (pc + 1) ls rest)) : W p l e R s m args below meth c H locs cells slots Q (F0 m pc ls (.long x :: .int i :: .ref a :: rest)) := by
  refine W.last hexec hb (hP q0 _ ha) ((hK.2 t0 _ ht).1 n (fun j => .long (f j))) (fun q => by cases q) (by show ¬ (i < 0 ∨ (arrV _ _ _).slots.size ≤ _); rw [arrV_size]; exact hin) rfl rfl hdg fun H1 e z oq => ?_
  refine kk H1 _ (hP.set hD ha ?_ oq) z oq (hS.put z oq (hD.2 q0 _ ha))
  show H1[a]? = some (vp_cell _ _)
  rw [e]
  rw [vp_cell_l, vp_cell_l, arrV_store]
  congr 2
  funext q
  by_cases hq : q = i.toNatClampNeg
  · subst hq
    simp [updV, vp_updL]
  · simp [updV, vp_updL, hq]
theorem wq_astq (hexec : p.tables.exec = Jvm.exec) (hb : c.code = cc) (hK : va_K D cl tys s) (hP : va_P D cl ws H) (hD : va_D A ws) (hS : va_S A H0 H locs) (q0 t0 qk ci : Nat) {cA : ClassId} {r : vw_C} {n v : Nat} {vs : List Value} {f : Nat → Option Nat} (ha : ws[q0]? = some (a, .inl (cA, n, .inr (.inr (.inr (.inr f)))))) (ht : tys[t0]? = some (cA, .object r.1)) (hv : ws[qk]? = some (v, .inr (ci, vs))) (hc : cl[ci]? = some r) {i : Int32} (hin : vp_in i n) (hdg : decode cc pc = .ok (.aastore, 1))
    (kk : ∀ (H1 : Heap) (locs1 : List Loc), va_P D cl (ws.set q0 (a, .inl (cA, n, .inr (.inr (.inr (.inr (va_up f i.toNatClampNeg (some v)))))))) H1 → H1.size = H.size → (∀ q : Nat, q ≠ a → H1[q]? = H[q]?) → va_S A H0 H1 locs1 → W p l e R s m args below meth c H1 locs1 cells slots Q (F0 m (pc + 1) ls rest)) : W p l e R s m args below meth c H locs cells slots Q (F0 m pc ls (.ref v :: .int i :: .ref a :: rest)) := by
  have hlt : i.toNatClampNeg < n := Nat.not_le.mp fun q => hin (Or.inr q)
  have h0 : ¬ i < 0 := fun q => hin (Or.inl q)
  obtain ⟨r', hr', cellV, g1, g2, g3, -⟩ := hP qk _ hv
  have hcls := (hK.1 ci r hc).2
  obtain ⟨kA, comp, k1, k2, k3, -⟩ := (hK.2 t0 _ ht).2
  have hcomp : comp = D.1 ci := Option.some.inj (k3.symm.trans hcls.1)
  subst hcomp
  obtain ⟨kC, hkC, -⟩ := hcls.2
  refine W.aast hexec hb (hP q0 _ ha) (fun q h => by cases h) (fun h => by cases h) k1 k2 rfl hkC ⟨h0, by show _ < (arrV _ _ _).slots.size; rw [arrV_size]; exact hlt⟩ g1 (fun q h => by rw [g3] at h; cases h) (by rw [g2]; exact hkC) (by rw [g2]; exact va_assign hcls) rfl rfl hdg fun H1 e z oq => ?_
  refine kk H1 _ (hP.set hD ha ?_ oq) z oq (hS.put z oq (hD.2 q0 _ ha))
  show H1[a]? = some (vp_cell _ _)
  rw [e]
  rw [vp_cell_q, vp_cell_q, arrV_store]
  congr 2
  funext q
  by_cases hq : q = i.toNatClampNeg
  · subst hq
    simp [updV, va_up, va_rf]
  · simp [updV, va_up, hq]
theorem wq_new (hexec : p.tables.exec = Jvm.exec) (hb : c.code = cc) {own C : String} {T : u_T} {N ci index : Nat} {Ts : List Cond} (hts : ∀ w ∈ Ts, w.before args s = true) (hin : ∀ w ∈ u_ws C T N, w ∈ Ts) (ty : Nat → FieldType) (hty : ∀ k, k < N → parseFieldDescriptor (T k).2.2.1 = some (ty k)) (hown : s.vm.findClass own = some m.cls) (hcl : (Cond.classLink own index C).before args s = true) (hinst : (Cond.instantiable C N).before args s = true) (hini : (Cond.initialized C).before args s = true)
    (hK : va_K D cl tys s) (hP : va_P D cl ws H) (hS : va_S A H0 H locs) (hc : cl[ci]? = some (C, T, N)) {fs : List Value} (hfs : ∀ j, j < N → defaultValue (ty j) = vp_V fs j) (hcells : cells + 1 ≤ R.cells) (hslots : slots + N ≤ R.slots) (hdg : decode cc pc = .ok (.new index, 3))
    (kk : ∀ (H1 : Heap), va_P D cl (ws ++ [(H.size, .inr (ci, fs))]) H1 → H1.size = H.size + 1 → (∀ q : Nat, q < H.size → H1[q]? = H[q]?) → va_S A H0 H1 locs →
      W p l e R s m args below meth c H1 locs (cells + 1) (slots + N) Q (F0 m (pc + 3) ls (.ref H.size :: rest))) : W p l e R s m args below meth c H locs cells slots Q (F0 m pc ls rest) := by
  have hKn := hK.1 ci _ hc
  refine W.newcK hexec hb hown hcl hinst hini rfl hdg hcells hslots hKn.2.1 rfl fun H1 kC hkC e1 z1 o1 => ?_
  have hk : ∀ (k : Nat) (x : Nat × va_E), ws[k]? = some x → H1[x.1]? = H[x.1]? := fun k x hx => o1 x.1 ((hP k x hx).lt)
  refine kk H1 ((hP.kept hk).app (fun k x hx => ?_)) z1 o1 ⟨Nat.le_trans hS.1 (by omega), fun x h1 h2 => (o1 x (Nat.lt_of_lt_of_le h1 hS.1)).trans (hS.2.1 x h1 h2), hS.2.2⟩
  have hz : k < 1 := (List.getElem?_eq_some_iff.mp hx).1
  rw [show k = 0 by omega] at hx
  cases hx
  exact ⟨_, hc, (u_born ty hts hin hKn hkC e1 hty).to hfs⟩
theorem wq_newa (hexec : p.tables.exec = Jvm.exec) (hb : c.code = cc) {atype : ArrayType} (harr : (Cond.arrayClass (newarray.typeOf atype)).before args s = true) (hP : va_P D cl ws H) (hS : va_S A H0 H locs)
    {n : Int32} {N' : Nat} {a0 : vp_A} {cA : ClassId} (hcA : s.vm.findClass ("[" ++ (newarray.typeOf atype).toString) = some cA) (ha : vp_cell cA a0 = arrV cA N' (fun _ => defaultValue (newarray.typeOf atype))) (hn : ¬ n < 0) (hN : n.toNatClampNeg = N') (hbytes : N' * componentBytes (newarray.typeOf atype) ≤ 536870912) (hcells : cells + 1 ≤ R.cells) (hslots : slots + N' ≤ R.slots) (hdg : decode cc pc = .ok (.newarray atype, 2))
    (kk : ∀ (H1 : Heap), va_P D cl (ws ++ [(H.size, .inl (cA, a0))]) H1 → H1.size = H.size + 1 → (∀ q : Nat, q < H.size → H1[q]? = H[q]?) → va_S A H0 H1 locs →
      W p l e R s m args below meth c H1 locs (cells + 1) (slots + N') Q (F0 m (pc + 2) ls (.ref H.size :: rest))) : W p l e R s m args below meth c H locs cells slots Q (F0 m pc ls (.int n :: rest)) := by
  refine va_newaK hexec hb harr rfl hdg rfl hn hN hbytes hcells hslots rfl fun H1 cA' e1 z1 o1 hAr hNm => ?_
  have hcc : cA' = cA := Option.some.inj (hNm.symm.trans hcA)
  subst hcc
  have hk : ∀ (k : Nat) (x : Nat × va_E), ws[k]? = some x → H1[x.1]? = H[x.1]? := fun k x hx => o1 x.1 ((hP k x hx).lt)
  refine kk H1 ((hP.kept hk).app (fun k x hx => ?_)) z1 o1 ⟨Nat.le_trans hS.1 (by omega), fun x h1 h2 => (o1 x (Nat.lt_of_lt_of_le h1 hS.1)).trans (hS.2.1 x h1 h2), hS.2.2⟩
  have hz : k < 1 := (List.getElem?_eq_some_iff.mp hx).1
  rw [show k = 0 by omega] at hx
  cases hx
  show H1[H.size]? = some (vp_cell _ _)
  rw [ha]
  exact e1
theorem wq_newq (hexec : p.tables.exec = Jvm.exec) (hb : c.code = cc) {own C : String} {index : Nat} (hown : s.vm.findClass own = some m.cls) (hclink : (Cond.classLink own index C).before args s = true) (hover : va_AO C s) (hP : va_P D cl ws H) (hS : va_S A H0 H locs)
    {n : Int32} {N' : Nat} {cA : ClassId} (hcA : s.vm.findClass ("[" ++ (FieldType.object C).toString) = some cA) (hn : ¬ n < 0) (hN : n.toNatClampNeg = N') (hbytes : N' * 4 ≤ 536870912) (hcells : cells + 1 ≤ R.cells) (hslots : slots + N' ≤ R.slots) (hdg : decode cc pc = .ok (.anewarray index, 3))
    (kk : ∀ (H1 : Heap), va_P D cl (ws ++ [(H.size, .inl (cA, N', .inr (.inr (.inr (.inr (fun _ => none))))))]) H1 → H1.size = H.size + 1 → (∀ q : Nat, q < H.size → H1[q]? = H[q]?) → va_S A H0 H1 locs →
      W p l e R s m args below meth c H1 locs (cells + 1) (slots + N') Q (F0 m (pc + 3) ls (.ref H.size :: rest))) : W p l e R s m args below meth c H locs cells slots Q (F0 m pc ls (.int n :: rest)) := by
  subst hN
  refine W.anew hexec hb hown hclink (va_AO.use hover) rfl hdg rfl hn hbytes hcells hslots fun cA' kA comp f1 f2 f3 f4 => ?_
  have hcc : cA' = cA := Option.some.inj (f1.symm.trans hcA)
  subst hcc
  generalize hH1 : H.push ({ cls := cA', slots := Array.replicate n.toNatClampNeg .null, vm := .none } : Cell) = H1
  have z1 : H1.size = H.size + 1 := by rw [← hH1, Array.size_push]
  have e1 : H1[H.size]? = some (arrV cA' n.toNatClampNeg (fun _ => .null)) := by rw [← hH1, Array.getElem?_push_size, ← arrV_new]
  have o1 : ∀ q : Nat, q < H.size → H1[q]? = H[q]? := fun q hq => by rw [← hH1, Array.getElem?_push, if_neg (Nat.ne_of_lt hq)]
  have hk : ∀ (k : Nat) (x : Nat × va_E), ws[k]? = some x → H1[x.1]? = H[x.1]? := fun k x hx => o1 x.1 ((hP k x hx).lt)
  refine kk H1 ((hP.kept hk).app (fun k x hx => ?_)) z1 o1 ⟨Nat.le_trans hS.1 (by omega), fun x h1 h2 => (o1 x (Nat.lt_of_lt_of_le h1 hS.1)).trans (hS.2.1 x h1 h2), hS.2.2⟩
  have hz : k < 1 := (List.getElem?_eq_some_iff.mp hx).1
  rw [show k = 0 by omega] at hx
  cases hx
  show H1[H.size]? = some (vp_cell _ _)
  rw [vp_cell_q]
  exact e1
end WQ
end
section
theorem wq_copyi {p : Program} {l : Launch} {e : Env} {R : Room} {s : State} {m : MethodId} {args : Array Value} {below : List Frame} {meth : Method} {c : Code} {H : Heap} {locs : List Loc} {cells slots : Nat} {Q : State → Prop}
    {pc : Nat} {ls : Array Slot} {rest : List Value} {D : va_G} {cl : List vw_C} {A : Nat → Prop} {a : Nat} {tys : List (ClassId × FieldType)} {ws : va_W} {H0 : Heap}
    {cc : ByteArray} (hexec : p.tables.exec = Jvm.exec) (hb : c.code = cc) (hml : c.maxLocals = ls.size) {own : String} {index : Nat} (hown : s.vm.findClass own = some m.cls) (hlink : (Cond.methodLink own index arraycopyName).before args s = true) (hnat : (Cond.native arraycopyName).before args s = true) (hstat : (Cond.static arraycopyName).before args s = true) (hini : (Cond.initialized "java/lang/System").before args s = true)
    (hK : va_K D cl tys s) (hP : va_P D cl ws H) (hD : va_D A ws) (hS : va_S A H0 H locs) (q0 q1 t0 : Nat) {a0 : Nat} {c0 : ClassId} {n0 n1 : Nat} {f g : Nat → Int32} (ha0 : ws[q0]? = some (a0, .inl (c0, n0, .inl f))) (ha1 : ws[q1]? = some (a, .inl (c0, n1, .inl g))) (ht0 : tys[t0]? = some (c0, .int))
    {sp dp n : Int32} (h1 : ¬ sp < 0) (h2 : ¬ dp < 0) (h3 : ¬ n < 0) (h4 : sp.toNatClampNeg + n.toNatClampNeg ≤ n0) (h5 : dp.toNatClampNeg + n.toNatClampNeg ≤ n1)
    (hframes : 1 ≤ R.frames) (hlocals : (rest.map fun v => v.category).sum + (nativeFrameWords "java/lang/System" "arraycopy" 5 + 11) ≤ R.locals) (hdg : decode cc pc = .ok (.invokestatic index, 3))
    (kk : ∀ (H1 : Heap) (locs1 : List Loc), va_P D cl (ws.set q1 (a, .inl (c0, n1, .inl (va_cpy f g sp.toNatClampNeg dp.toNatClampNeg n.toNatClampNeg)))) H1 → H1.size = H.size → (∀ q : Nat, q ≠ a → H1[q]? = H[q]?) → va_S A H0 H1 locs1 → W p l e R s m args below meth c H1 locs1 cells slots Q (F0 m (pc + 3) ls rest)) : W p l e R s m args below meth c H locs cells slots Q (F0 m pc ls (.int n :: .int dp :: .ref a :: .int sp :: .ref a0 :: rest)) := by
  have nn : ∀ z : Int32, ¬ z < 0 → z.toInt = (z.toNatClampNeg : Int) := by
    intro z hz
    have hz0 : (0 : Int) ≤ z.toInt := by
      have := Int32.not_lt.mp hz
      simpa using Int32.le_iff_toInt_le.mp this
    show z.toInt = ((z.toInt.toNat : Nat) : Int)
    omega
  intro T hT X
  have hc0 : H[a0]? = some (vp_cell c0 (n0, .inl f)) := hP q0 _ ha0
  have hc1 : H[a]? = some (vp_cell c0 (n1, .inl g)) := hP q1 _ ha1
  obtain ⟨-, k0, hk0, cm0, hkk0⟩ := (hK.2 t0 _ ht0).1 n0 (fun j => .int (f j))
  obtain ⟨-, k1, hk1, cm1, hkk1⟩ := (hK.2 t0 _ ht0).1 n1 (fun j => .int (g j))
  obtain ⟨vm', X', step⟩ := X.arraycopy hexec hown hlink hnat hstat hini (src := a0) (dst := a) (cs := vp_cell c0 (n0, .inl f)) (cd := vp_cell c0 (n1, .inl g)) (srcPos := sp) (destPos := dp) (n := n) (by rw [hT]; exact hc0) (by rw [hT]; exact hc1)
    (fun _ h => by cases h) (fun _ h => by cases h) (fun h => by cases h) (fun h => by cases h) hk0 hk1 hkk0 hkk1 (by simp [refKind]) h1 h2 h3
    (by rw [nn sp h1, nn n h3]; show ¬ _ > ((arrV c0 n0 (fun j => .int (f j))).slots.size : Int); rw [arrV_size]; omega)
    (by rw [nn dp h2, nn n h3]; show ¬ _ > ((arrV c0 n1 (fun j => .int (g j))).slots.size : Int); rw [arrV_size]; omega)
    (fun vm₁ _ i hi => by
      have e : (vp_cell c0 (n0, .inl f)).slots.getD (sp.toNatClampNeg + i) .null = .int (f (sp.toNatClampNeg + i)) := by
        show (arrV c0 n0 (fun j => .int (f j))).slots.getD _ _ = _
        rw [Array.getD_eq_getD_getElem?, arrV_read _ _ (by omega)]
        rfl
      refine ⟨?_, ?_⟩
      · rw [e]
        rfl
      · rw [e]
        exact trivial)
    (g := F0 m pc ls (.int n :: .int dp :: .ref a :: .int sp :: .ref a0 :: rest)) rfl (by rw [hml]) (rest := rest) rfl (by rw [hb]; exact hdg) hframes (by show 2 * 0 + _ + _ ≤ _; omega)
  have e1 : copied (vp_cell c0 (n0, .inl f)) (vp_cell c0 (n1, .inl g)) sp dp n = vp_cell c0 (n1, .inl (va_cpy f g sp.toNatClampNeg dp.toNatClampNeg n.toNatClampNeg)) := va_copied (fun z => .int z) c0 c0 f g h4
  rw [e1] at X' step
  have hl : a < H.size := (Array.getElem?_eq_some_iff.mp hc1).1
  have hheap : ((T.setVm vm').setCell a (vp_cell c0 (n1, .inl (va_cpy f g sp.toNatClampNeg dp.toNatClampNeg n.toNatClampNeg)))).heap = H.setIfInBounds a (vp_cell c0 (n1, .inl (va_cpy f g sp.toNatClampNeg dp.toNatClampNeg n.toNatClampNeg))) := by rw [← hT]; rfl
  have oq : ∀ q : Nat, q ≠ a → (H.setIfInBounds a (vp_cell c0 (n1, .inl (va_cpy f g sp.toNatClampNeg dp.toNatClampNeg n.toNatClampNeg))))[q]? = H[q]? := fun q hq => by simp [Array.getElem?_setIfInBounds, Ne.symm hq]
  obtain ⟨t, a1, b1⟩ := kk _ _ (hP.set hD ha1 (show (H.setIfInBounds a _)[a]? = some _ by simp [Array.getElem?_setIfInBounds, hl]) oq) (by simp) oq ⟨by simp; exact hS.1, fun q g1 g2 => by
      rw [oq q (fun e => g2 (by rw [e]; exact hD.2 q1 _ ha1))]
      exact hS.2.1 q g1 g2, fun q hq => by
      rcases List.mem_append.mp hq with h | h
      · exact hS.2.2 q h
      · obtain ⟨z, -, hz⟩ := List.mem_map.mp h
        rw [← hz]
        exact hD.2 q1 _ ha1⟩ _ hheap X'
  exact ⟨t, step t a1, b1⟩
/-! how what a frame stands on is carried on -/
section CX
variable {X : SX} {M : MD} {d : Nat} {lv : Lv} {h h' : AH} {dC : Nat → ClassId} {dI : Nat → Nat → Nat} {cA : Nat → ClassId} {base b : Nat} {p : Program} {R : Room} {s : State} {m : MethodId} {args : Array Value} {meth : Method} {c : Code} {H : Heap} {locs : List Loc} {cells slots mc ms : Nat} {ls : Array Slot}
theorem Cx.heap (hC : Cx X M d lv h h' dC dI cA base b p R s m args meth c H locs cells slots mc ms ls) {h1 : AH} {H1 : Heap} {locs1 : List Loc} (hP1 : va_P (dC, dI) vwCl (con base b cA 0 h1) H1) (hz : H1.size = H.size) (oq : ∀ q : Nat, q < base → H1[q]? = H[q]?) (hS : va_S (fun q => base ≤ q) s.heap H1 locs1) (hl : h1.length = h.length) (ha : asz h1 = asz h) :
    Cx X M d lv h1 h' dC dI cA base b p R s m args meth c H1 locs1 cells slots mc ms ls := by
  obtain ⟨g1, ⟨k1, ⟨k2, k3⟩, k4⟩, ⟨g3, g4⟩, g5, g6, g7, g8, ⟨g9, g10⟩, g11⟩ := hC
  exact ⟨g1, ⟨k1, ⟨k2.kept (oq b k3), k3⟩, k4⟩, ⟨hP1, by rw [hz, g4, hl]⟩, hS, g6, g7, g8, ⟨by rw [hl]; exact g9, by rw [ha]; exact g10⟩, g11⟩
theorem Cx.loc (hC : Cx X M d lv h h' dC dI cA base b p R s m args meth c H locs cells slots mc ms ls) {lv' : Lv} {ls' : Array Slot} (hl : lv_has ls' M.2.2.2.1 (shl base b lv')) :
    Cx X M d lv' h h' dC dI cA base b p R s m args meth c H locs cells slots mc ms ls' := by
  obtain ⟨g1, g2, g3, g5, g6, g7, g8, g9, g11⟩ := hC
  exact ⟨g1, g2, g3, g5, g6, hl, g8, g9, g11⟩
/-- a local variable is read -/
theorem Cx.look (hC : Cx X M d lv h h' dC dI cA base b p R s m args meth c H locs cells slots mc ms ls) {i : Nat} {v : Value} (hv : lv.lookup i = some v) : ls[i]? = some (.val (shv base b v)) := by
  have hm : ∀ (l : Lv), l.lookup i = some v → (i, v) ∈ l := by
    intro l
    induction l with
    | nil => intro h; simp at h
    | cons q l ih =>
      intro h
      obtain ⟨k, w⟩ := q
      rw [List.lookup_cons] at h
      cases hk : (i == k) with
      | true =>
        rw [hk] at h
        cases h
        rw [eq_of_beq hk]
        exact List.mem_cons_self
      | false =>
        rw [hk] at h
        exact List.mem_cons_of_mem _ (ih h)
  exact hC.2.2.2.2.2.1.2.2 (i, shv base b v) (List.mem_map.mpr ⟨(i, v), hm lv hv, rfl⟩)
end CX
/-- a local is written: the others, without a long that it cuts -/
def lvset (lv : Lv) (i : Nat) (v : Value) : Lv := (i, v) :: lv.filter (fun q => !(q.1 == i) && !(q.1 + 1 == i && q.2.category == 2))
def lvset2 (lv : Lv) (i : Nat) (v : Value) : Lv := (i, v) :: lv.filter (fun q => !(q.1 == i) && (!(q.1 == i + 1) && !(q.1 + 1 == i && q.2.category == 2)))
theorem shv_cat (base b : Nat) (v : Value) : (shv base b v).category = v.category := by cases v <;> rfl
theorem shl_set (base b : Nat) (lv : Lv) (i : Nat) (v : Value) : shl base b (lvset lv i v) = (i, shv base b v) :: (shl base b lv).filter (fun q => !(q.1 == i) && !(q.1 + 1 == i && q.2.category == 2)) := by
  simp [shl, lvset, List.filter_map, Function.comp_def, shv_cat]
theorem shl_set2 (base b : Nat) (lv : Lv) (i : Nat) (v : Value) : shl base b (lvset2 lv i v) = (i, shv base b v) :: (shl base b lv).filter (fun q => !(q.1 == i) && (!(q.1 == i + 1) && !(q.1 + 1 == i && q.2.category == 2))) := by
  simp [shl, lvset2, List.filter_map, Function.comp_def, shv_cat]
section GR
variable {X : SX} {M : MD} {d pc : Nat} {lv lv' : Lv} {st : List Value} {h h' : AH} {rv : Option Int32}
/-- a rule that changes nothing but the stack and the place -/
theorem G.of {pc' : Nat} {st st' : List Value} (k : G X M d pc' lv st' h rv h')
    (r : ∀ (l : Launch) (dC : Nat → ClassId) (dI : Nat → Nat → Nat) (cA : Nat → ClassId) (base b : Nat) (p : Program) (e : Env) (R : Room) (s : State) (m : MethodId) (args : Array Value) (below : List Frame) (meth : Method) (c : Code) (H : Heap) (locs : List Loc) (cells slots mc ms : Nat) (ls : Array Slot) (Q : State → Prop),
      Cx X M d lv h h' dC dI cA base b p R s m args meth c H locs cells slots mc ms ls → W p l e R s m args below meth c H locs cells slots Q (F0 m pc' ls (st'.map (shv base b))) → W p l e R s m args below meth c H locs cells slots Q (F0 m pc ls (st.map (shv base b)))) : G X M d pc lv st h rv h' :=
  ⟨k.1, fun l dC dI cA base b p e R s m args below meth c H locs cells slots mc ms ls hC => r l dC dI cA base b p e R s m args below meth c H locs cells slots mc ms ls _ hC (k.2 l dC dI cA base b p e R s m args below meth c H locs cells slots mc ms ls hC)⟩
theorem G.iconst {n : Int} {v : Int32} (hd : decode M.2.2.1 pc = .ok (.iconst n, 1)) (hv : Int32.ofInt n = v) (k : G X M d (pc + 1) lv (.int v :: st) h rv h') : G X M d pc lv st h rv h' :=
  G.of k fun l dC dI cA base b p e R s m args below meth c H locs cells slots mc ms ls Q hC hW => lv_iconst hC.1.1 hC.1.2.1 hd hv hW
theorem G.bipush {n : Int} {v : Int32} (hd : decode M.2.2.1 pc = .ok (.bipush n, 2)) (hv : (Int8.ofInt n).toInt32 = v) (k : G X M d (pc + 2) lv (.int v :: st) h rv h') : G X M d pc lv st h rv h' :=
  G.of k fun l dC dI cA base b p e R s m args below meth c H locs cells slots mc ms ls Q hC hW => lv_bipush hC.1.1 hC.1.2.1 hd hv hW
theorem G.sipush {n : Int} {v : Int32} (hd : decode M.2.2.1 pc = .ok (.sipush n, 3)) (hv : (Int16.ofInt n).toInt32 = v) (k : G X M d (pc + 3) lv (.int v :: st) h rv h') : G X M d pc lv st h rv h' :=
  G.of k fun l dC dI cA base b p e R s m args below meth c H locs cells slots mc ms ls Q hC hW => lv_sipush hC.1.1 hC.1.2.1 hd hv hW
theorem G.iload_n {i : Fin 4} {x : Int32} (hd : decode M.2.2.1 pc = .ok (.iload_n i, 1)) (hl : lv.lookup (i : Nat) = some (.int x)) (k : G X M d (pc + 1) lv (.int x :: st) h rv h') : G X M d pc lv st h rv h' :=
  G.of k fun l dC dI cA base b p e R s m args below meth c H locs cells slots mc ms ls Q hC hW => lv_iload_n hC.1.1 hC.1.2.1 hd rfl (hC.look hl) hW
theorem G.iload {i : Nat} {x : Int32} (hd : decode M.2.2.1 pc = .ok (.iload i, 2)) (hl : lv.lookup i = some (.int x)) (k : G X M d (pc + 2) lv (.int x :: st) h rv h') : G X M d pc lv st h rv h' :=
  G.of k fun l dC dI cA base b p e R s m args below meth c H locs cells slots mc ms ls Q hC hW => lv_iload hC.1.1 hC.1.2.1 hd (hC.look hl) hW
theorem G.lload_n {i : Fin 4} {x : Int64} (hd : decode M.2.2.1 pc = .ok (.lload_n i, 1)) (hl : lv.lookup (i : Nat) = some (.long x)) (k : G X M d (pc + 1) lv (.long x :: st) h rv h') : G X M d pc lv st h rv h' :=
  G.of k fun l dC dI cA base b p e R s m args below meth c H locs cells slots mc ms ls Q hC hW => lv_lload_n hC.1.1 hC.1.2.1 hd rfl (hC.look hl) hW
theorem G.aload_n {i : Fin 4} {x : Nat} (hd : decode M.2.2.1 pc = .ok (.aload_n i, 1)) (hl : lv.lookup (i : Nat) = some (.ref x)) (k : G X M d (pc + 1) lv (.ref x :: st) h rv h') : G X M d pc lv st h rv h' :=
  G.of k fun l dC dI cA base b p e R s m args below meth c H locs cells slots mc ms ls Q hC hW => lv_aload_n hC.1.1 hC.1.2.1 hd rfl (hC.look hl) hW
/-- the script's reference -/
theorem G.sload_n {i : Fin 4} {z : UInt32} (hd : decode M.2.2.1 pc = .ok (.aload_n i, 1)) (hl : lv.lookup (i : Nat) = some (.float z)) (k : G X M d (pc + 1) lv (.float z :: st) h rv h') : G X M d pc lv st h rv h' :=
  G.of k fun l dC dI cA base b p e R s m args below meth c H locs cells slots mc ms ls Q hC hW => lv_aload_n hC.1.1 hC.1.2.1 hd rfl (hC.look hl) hW
theorem G.aload {i : Nat} {x : Nat} (hd : decode M.2.2.1 pc = .ok (.aload i, 2)) (hl : lv.lookup i = some (.ref x)) (k : G X M d (pc + 2) lv (.ref x :: st) h rv h') : G X M d pc lv st h rv h' :=
  G.of k fun l dC dI cA base b p e R s m args below meth c H locs cells slots mc ms ls Q hC hW => lv_aload hC.1.1 hC.1.2.1 hd (hC.look hl) hW
/-- stores: the new list is named -/
theorem G.istore_n {i : Fin 4} {x : Int32} (hd : decode M.2.2.1 pc = .ok (.istore_n i, 1)) (hn : (i : Nat) < M.2.2.2.1) (hl : lvset lv i (.int x) = lv') (k : G X M d (pc + 1) lv' st h rv h') : G X M d pc lv (.int x :: st) h rv h' :=
  ⟨k.1, fun l dC dI cA base b p e R s m args below meth c H locs cells slots mc ms ls hC => lv_istore_n hC.1.1 hC.1.2.1 hd rfl hC.2.2.2.2.2.1 hn rfl fun ls' hl' => k.2 l dC dI cA base b p e R s m args below meth c H locs cells slots mc ms ls' (hC.loc (by rw [← hl, shl_set]; exact hl'))⟩
theorem G.istore {i : Nat} {x : Int32} (hd : decode M.2.2.1 pc = .ok (.istore i, 2)) (hn : i < M.2.2.2.1) (hl : lvset lv i (.int x) = lv') (k : G X M d (pc + 2) lv' st h rv h') : G X M d pc lv (.int x :: st) h rv h' :=
  ⟨k.1, fun l dC dI cA base b p e R s m args below meth c H locs cells slots mc ms ls hC => lv_istore hC.1.1 hC.1.2.1 hd hC.2.2.2.2.2.1 hn rfl fun ls' hl' => k.2 l dC dI cA base b p e R s m args below meth c H locs cells slots mc ms ls' (hC.loc (by rw [← hl, shl_set]; exact hl'))⟩
theorem G.lstore_n {i : Fin 4} {x : Int64} (hd : decode M.2.2.1 pc = .ok (.lstore_n i, 1)) (hn : (i : Nat) + 1 < M.2.2.2.1) (hl : lvset2 lv i (.long x) = lv') (k : G X M d (pc + 1) lv' st h rv h') : G X M d pc lv (.long x :: st) h rv h' :=
  ⟨k.1, fun l dC dI cA base b p e R s m args below meth c H locs cells slots mc ms ls hC => lv_lstore_n hC.1.1 hC.1.2.1 hd rfl hC.2.2.2.2.2.1 hn rfl fun ls' hl' => k.2 l dC dI cA base b p e R s m args below meth c H locs cells slots mc ms ls' (hC.loc (by rw [← hl, shl_set2]; exact hl'))⟩
theorem G.astore_n {i : Fin 4} {x : Nat} (hd : decode M.2.2.1 pc = .ok (.astore_n i, 1)) (hn : (i : Nat) < M.2.2.2.1) (hl : lvset lv i (.ref x) = lv') (k : G X M d (pc + 1) lv' st h rv h') : G X M d pc lv (.ref x :: st) h rv h' :=
  ⟨k.1, fun l dC dI cA base b p e R s m args below meth c H locs cells slots mc ms ls hC => lv_astore_n hC.1.1 hC.1.2.1 hd rfl hC.2.2.2.2.2.1 hn rfl fun ls' hl' => k.2 l dC dI cA base b p e R s m args below meth c H locs cells slots mc ms ls' (hC.loc (by rw [← hl, shl_set]; exact hl'))⟩
theorem G.iinc {i : Nat} {n : Int} {x v : Int32} (hd : decode M.2.2.1 pc = .ok (.iinc i n, 3)) (hk : lv.lookup i = some (.int x)) (hv : x + Int32.ofInt n = v) (hn : i < M.2.2.2.1) (hl : lvset lv i (.int v) = lv') (k : G X M d (pc + 3) lv' st h rv h') : G X M d pc lv st h rv h' := by
  refine ⟨k.1, fun l dC dI cA base b p e R s m args below meth c H locs cells slots mc ms ls hC => ?_⟩
  have hx := hC.look hk
  have h1 : lv_has ls M.2.2.2.1 ((i, .int x) :: shl base b lv) := ⟨hC.2.2.2.2.2.1.1, hC.2.2.2.2.2.1.2.1, fun q hq => by
    rcases List.mem_cons.mp hq with rfl | hq
    · exact hx
    · exact hC.2.2.2.2.2.1.2.2 q hq⟩
  refine lv_iinc (k := 0) (v := v) hC.1.1 hC.1.2.1 hd h1 rfl hv hn rfl fun ls' hl' => k.2 l dC dI cA base b p e R s m args below meth c H locs cells slots mc ms ls' (hC.loc ?_)
  rw [← hl, shl_set]
  refine ⟨hl'.1, hl'.2.1, fun q hq => hl'.2.2 q ?_⟩
  rcases List.mem_cons.mp hq with h2 | h2
  · exact List.mem_cons.mpr (Or.inl h2)
  · obtain ⟨h3, h4⟩ := List.mem_filter.mp h2
    exact List.mem_cons_of_mem _ (List.mem_filter.mpr ⟨List.mem_cons_of_mem _ h3, h4⟩)
/-- fewer locals, in any order -/
theorem G.sub (hs : ∀ q ∈ lv', q ∈ lv) (k : G X M d pc lv' st h rv h') : G X M d pc lv st h rv h' := by
  refine ⟨k.1, fun l dC dI cA base b p e R s m args below meth c H locs cells slots mc ms ls hC => k.2 l dC dI cA base b p e R s m args below meth c H locs cells slots mc ms ls (hC.loc ⟨hC.2.2.2.2.2.1.1, hC.2.2.2.2.2.1.2.1, fun q hq => hC.2.2.2.2.2.1.2.2 q ?_⟩)⟩
  obtain ⟨q0, h1, h2⟩ := List.mem_map.mp hq
  exact List.mem_map.mpr ⟨q0, hs q0 h1, h2⟩
theorem G.pick (ks : List Nat) (hs : lv_pick lv ks = lv') (k : G X M d pc lv' st h rv h') : G X M d pc lv st h rv h' := by
  refine G.sub (fun q hq => ?_) k
  rw [← hs] at hq
  obtain ⟨i, -, hi⟩ := List.mem_filterMap.mp hq
  exact List.mem_of_getElem? hi
theorem G.iadd {x y : Int32} (hd : decode M.2.2.1 pc = .ok (.iadd, 1)) (k : G X M d (pc + 1) lv (.int (x + y) :: st) h rv h') : G X M d pc lv (.int y :: .int x :: st) h rv h' :=
  G.of k fun l dC dI cA base b p e R s m args below meth c H locs cells slots mc ms ls Q hC hW => lv_iadd hC.1.1 hC.1.2.1 hd hW
theorem G.isub {x y : Int32} (hd : decode M.2.2.1 pc = .ok (.isub, 1)) (k : G X M d (pc + 1) lv (.int (x - y) :: st) h rv h') : G X M d pc lv (.int y :: .int x :: st) h rv h' :=
  G.of k fun l dC dI cA base b p e R s m args below meth c H locs cells slots mc ms ls Q hC hW => lv_isub hC.1.1 hC.1.2.1 hd hW
theorem G.imul {x y : Int32} (hd : decode M.2.2.1 pc = .ok (.imul, 1)) (k : G X M d (pc + 1) lv (.int (x * y) :: st) h rv h') : G X M d pc lv (.int y :: .int x :: st) h rv h' :=
  G.of k fun l dC dI cA base b p e R s m args below meth c H locs cells slots mc ms ls Q hC hW => lv_imul hC.1.1 hC.1.2.1 hd hW
theorem G.iand {x y : Int32} (hd : decode M.2.2.1 pc = .ok (.iand, 1)) (k : G X M d (pc + 1) lv (.int (x &&& y) :: st) h rv h') : G X M d pc lv (.int y :: .int x :: st) h rv h' :=
  G.of k fun l dC dI cA base b p e R s m args below meth c H locs cells slots mc ms ls Q hC hW => lv_iand hC.1.1 hC.1.2.1 hd hW
theorem G.ior {x y : Int32} (hd : decode M.2.2.1 pc = .ok (.ior, 1)) (k : G X M d (pc + 1) lv (.int (x ||| y) :: st) h rv h') : G X M d pc lv (.int y :: .int x :: st) h rv h' :=
  G.of k fun l dC dI cA base b p e R s m args below meth c H locs cells slots mc ms ls Q hC hW => lv_ior hC.1.1 hC.1.2.1 hd hW
theorem G.ixor {x y : Int32} (hd : decode M.2.2.1 pc = .ok (.ixor, 1)) (k : G X M d (pc + 1) lv (.int (x ^^^ y) :: st) h rv h') : G X M d pc lv (.int y :: .int x :: st) h rv h' :=
  G.of k fun l dC dI cA base b p e R s m args below meth c H locs cells slots mc ms ls Q hC hW => lv_ixor hC.1.1 hC.1.2.1 hd hW
theorem G.ishl {x y : Int32} (hd : decode M.2.2.1 pc = .ok (.ishl, 1)) (k : G X M d (pc + 1) lv (.int (x <<< (y &&& 31)) :: st) h rv h') : G X M d pc lv (.int y :: .int x :: st) h rv h' :=
  G.of k fun l dC dI cA base b p e R s m args below meth c H locs cells slots mc ms ls Q hC hW => lv_ishl hC.1.1 hC.1.2.1 hd hW
theorem G.ishr {x y : Int32} (hd : decode M.2.2.1 pc = .ok (.ishr, 1)) (k : G X M d (pc + 1) lv (.int (x >>> (y &&& 31)) :: st) h rv h') : G X M d pc lv (.int y :: .int x :: st) h rv h' :=
  G.of k fun l dC dI cA base b p e R s m args below meth c H locs cells slots mc ms ls Q hC hW => lv_ishr hC.1.1 hC.1.2.1 hd hW
theorem G.iushr {x y : Int32} (hd : decode M.2.2.1 pc = .ok (.iushr, 1)) (k : G X M d (pc + 1) lv (.int ((x.toUInt32 >>> (y.toUInt32 &&& Int32.toUInt32 31)).toInt32) :: st) h rv h') : G X M d pc lv (.int y :: .int x :: st) h rv h' :=
  G.of k fun l dC dI cA base b p e R s m args below meth c H locs cells slots mc ms ls Q hC hW => lv_iushr hC.1.1 hC.1.2.1 hd rfl hW
theorem G.idiv {x y : Int32} (hd : decode M.2.2.1 pc = .ok (.idiv, 1)) (hy : ¬ y = 0) (k : G X M d (pc + 1) lv (.int (x / y) :: st) h rv h') : G X M d pc lv (.int y :: .int x :: st) h rv h' :=
  G.of k fun l dC dI cA base b p e R s m args below meth c H locs cells slots mc ms ls Q hC hW => lv_idiv hC.1.1 hC.1.2.1 hd hy hW
theorem G.irem {x y : Int32} (hd : decode M.2.2.1 pc = .ok (.irem, 1)) (hy : ¬ y = 0) (k : G X M d (pc + 1) lv (.int (x - x / y * y) :: st) h rv h') : G X M d pc lv (.int y :: .int x :: st) h rv h' :=
  G.of k fun l dC dI cA base b p e R s m args below meth c H locs cells slots mc ms ls Q hC hW => lv_irem hC.1.1 hC.1.2.1 hd hy hW
theorem G.ladd {x y : Int64} (hd : decode M.2.2.1 pc = .ok (.ladd, 1)) (k : G X M d (pc + 1) lv (.long (x + y) :: st) h rv h') : G X M d pc lv (.long y :: .long x :: st) h rv h' :=
  G.of k fun l dC dI cA base b p e R s m args below meth c H locs cells slots mc ms ls Q hC hW => lv_ladd hC.1.1 hC.1.2.1 hd hW
theorem G.lmul {x y : Int64} (hd : decode M.2.2.1 pc = .ok (.lmul, 1)) (k : G X M d (pc + 1) lv (.long (x * y) :: st) h rv h') : G X M d pc lv (.long y :: .long x :: st) h rv h' :=
  G.of k fun l dC dI cA base b p e R s m args below meth c H locs cells slots mc ms ls Q hC hW => lv_lmul hC.1.1 hC.1.2.1 hd hW
theorem G.ldiv {x y : Int64} (hd : decode M.2.2.1 pc = .ok (.ldiv, 1)) (hy : ¬ y = 0) (k : G X M d (pc + 1) lv (.long (x / y) :: st) h rv h') : G X M d pc lv (.long y :: .long x :: st) h rv h' :=
  G.of k fun l dC dI cA base b p e R s m args below meth c H locs cells slots mc ms ls Q hC hW => lv_ldiv hC.1.1 hC.1.2.1 hd hy hW
theorem G.lrem {x y : Int64} (hd : decode M.2.2.1 pc = .ok (.lrem, 1)) (hy : ¬ y = 0) (k : G X M d (pc + 1) lv (.long (x - x / y * y) :: st) h rv h') : G X M d pc lv (.long y :: .long x :: st) h rv h' :=
  G.of k fun l dC dI cA base b p e R s m args below meth c H locs cells slots mc ms ls Q hC hW => lv_lrem hC.1.1 hC.1.2.1 hd hy hW
theorem G.i2l {x : Int32} (hd : decode M.2.2.1 pc = .ok (.i2l, 1)) (k : G X M d (pc + 1) lv (.long x.toInt64 :: st) h rv h') : G X M d pc lv (.int x :: st) h rv h' :=
  G.of k fun l dC dI cA base b p e R s m args below meth c H locs cells slots mc ms ls Q hC hW => lv_i2l hC.1.1 hC.1.2.1 hd rfl hW
theorem G.l2i {x : Int64} (hd : decode M.2.2.1 pc = .ok (.l2i, 1)) (k : G X M d (pc + 1) lv (.int x.toInt32 :: st) h rv h') : G X M d pc lv (.long x :: st) h rv h' :=
  G.of k fun l dC dI cA base b p e R s m args below meth c H locs cells slots mc ms ls Q hC hW => lv_l2i hC.1.1 hC.1.2.1 hd rfl hW
theorem G.i2c {x : Int32} (hd : decode M.2.2.1 pc = .ok (.i2c, 1)) (k : G X M d (pc + 1) lv (.int (x.toUInt32 % 65536).toInt32 :: st) h rv h') : G X M d pc lv (.int x :: st) h rv h' :=
  G.of k fun l dC dI cA base b p e R s m args below meth c H locs cells slots mc ms ls Q hC hW => lv_i2c hC.1.1 hC.1.2.1 hd rfl hW
theorem G.dup {v : Value} (hd : decode M.2.2.1 pc = .ok (.dup, 1)) (hv : v.category = 1) (k : G X M d (pc + 1) lv (v :: v :: st) h rv h') : G X M d pc lv (v :: st) h rv h' :=
  G.of k fun l dC dI cA base b p e R s m args below meth c H locs cells slots mc ms ls Q hC hW => lv_dup hC.1.1 hC.1.2.1 hd (by rw [shv_cat]; exact hv) hW
theorem G.pop {v : Value} (hd : decode M.2.2.1 pc = .ok (.pop, 1)) (hv : v.category = 1) (k : G X M d (pc + 1) lv st h rv h') : G X M d pc lv (v :: st) h rv h' :=
  G.of k fun l dC dI cA base b p e R s m args below meth c H locs cells slots mc ms ls Q hC hW => lv_pop hC.1.1 hC.1.2.1 hd (by rw [shv_cat]; exact hv) hW
theorem G.dup2 {v w : Value} (hd : decode M.2.2.1 pc = .ok (.dup2, 1)) (hv : v.category = 1) (hw : w.category = 1) (k : G X M d (pc + 1) lv (v :: w :: v :: w :: st) h rv h') : G X M d pc lv (v :: w :: st) h rv h' :=
  G.of k fun l dC dI cA base b p e R s m args below meth c H locs cells slots mc ms ls Q hC hW => lv_dup2_11 hC.1.1 hC.1.2.1 hd (by rw [shv_cat]; exact hv) (by rw [shv_cat]; exact hw) hW
theorem G.goto {off : Int} (tgt : Nat) (hd : decode M.2.2.1 pc = .ok (.goto off, 3)) (ht : (pc : Int) + off = (tgt : Int)) (k : G X M d tgt lv st h rv h') : G X M d pc lv st h rv h' :=
  G.of k fun l dC dI cA base b p e R s m args below meth c H locs cells slots mc ms ls Q hC hW => lv_goto hC.1.1 hC.1.2.1 hd ht hW
end GR
end
section
section GB
variable {X : SX} {M : MD} {d pc : Nat} {lv lv' : Lv} {st : List Value} {h h' : AH} {rv : Option Int32}
theorem G.br {c : Prop} [Decidable c] {pc1 pc2 : Nat} {st : List Value} {st' : List Value} (kt : c → G X M d pc1 lv st' h rv h') (kf : ¬ c → G X M d pc2 lv st' h rv h')
    (r : ∀ (l : Launch) (dC : Nat → ClassId) (dI : Nat → Nat → Nat) (cA : Nat → ClassId) (base b : Nat) (p : Program) (e : Env) (R : Room) (s : State) (m : MethodId) (args : Array Value) (below : List Frame) (meth : Method) (c0 : Code) (H : Heap) (locs : List Loc) (cells slots mc ms : Nat) (ls : Array Slot) (Q : State → Prop),
      Cx X M d lv h h' dC dI cA base b p R s m args meth c0 H locs cells slots mc ms ls → (c → W p l e R s m args below meth c0 H locs cells slots Q (F0 m pc1 ls (st'.map (shv base b)))) → (¬ c → W p l e R s m args below meth c0 H locs cells slots Q (F0 m pc2 ls (st'.map (shv base b)))) → W p l e R s m args below meth c0 H locs cells slots Q (F0 m pc ls (st.map (shv base b)))) : G X M d pc lv st h rv h' := by
  refine ⟨?_, fun l dC dI cA base b p e R s m args below meth c0 H locs cells slots mc ms ls hC => r l dC dI cA base b p e R s m args below meth c0 H locs cells slots mc ms ls _ hC (fun hc => (kt hc).2 l dC dI cA base b p e R s m args below meth c0 H locs cells slots mc ms ls hC) (fun hc => (kf hc).2 l dC dI cA base b p e R s m args below meth c0 H locs cells slots mc ms ls hC)⟩
  by_cases hc : c
  · exact (kt hc).1
  · exact (kf hc).1
theorem G.if_eq {x : Int32} {off : Int} (tgt : Nat) (hd : decode M.2.2.1 pc = .ok (.ifCond .eq off, 3)) (ht : (pc : Int) + off = (tgt : Int)) (kt : x = 0 → G X M d tgt lv st h rv h') (kf : ¬ x = 0 → G X M d (pc + 3) lv st h rv h') : G X M d pc lv (.int x :: st) h rv h' :=
  G.br kt kf fun l dC dI cA base b p e R s m args below meth c H locs cells slots mc ms ls Q hC h1 h2 => lv_if_eq hC.1.1 hC.1.2.1 hd ht h1 h2
theorem G.if_ne {x : Int32} {off : Int} (tgt : Nat) (hd : decode M.2.2.1 pc = .ok (.ifCond .ne off, 3)) (ht : (pc : Int) + off = (tgt : Int)) (kt : ¬ x = 0 → G X M d tgt lv st h rv h') (kf : x = 0 → G X M d (pc + 3) lv st h rv h') : G X M d pc lv (.int x :: st) h rv h' :=
  G.br (c := ¬ x = 0) kt (fun q => kf (Decidable.of_not_not q)) fun l dC dI cA base b p e R s m args below meth c H locs cells slots mc ms ls Q hC h1 h2 => lv_if_ne hC.1.1 hC.1.2.1 hd ht h1 (fun q => h2 (fun z => z q))
theorem G.if_lt {x : Int32} {off : Int} (tgt : Nat) (hd : decode M.2.2.1 pc = .ok (.ifCond .lt off, 3)) (ht : (pc : Int) + off = (tgt : Int)) (kt : x < 0 → G X M d tgt lv st h rv h') (kf : ¬ x < 0 → G X M d (pc + 3) lv st h rv h') : G X M d pc lv (.int x :: st) h rv h' :=
  G.br kt kf fun l dC dI cA base b p e R s m args below meth c H locs cells slots mc ms ls Q hC h1 h2 => lv_if_lt hC.1.1 hC.1.2.1 hd ht h1 h2
theorem G.if_ge {x : Int32} {off : Int} (tgt : Nat) (hd : decode M.2.2.1 pc = .ok (.ifCond .ge off, 3)) (ht : (pc : Int) + off = (tgt : Int)) (kt : 0 ≤ x → G X M d tgt lv st h rv h') (kf : ¬ 0 ≤ x → G X M d (pc + 3) lv st h rv h') : G X M d pc lv (.int x :: st) h rv h' :=
  G.br kt kf fun l dC dI cA base b p e R s m args below meth c H locs cells slots mc ms ls Q hC h1 h2 => lv_if_ge hC.1.1 hC.1.2.1 hd ht h1 h2
theorem G.if_gt {x : Int32} {off : Int} (tgt : Nat) (hd : decode M.2.2.1 pc = .ok (.ifCond .gt off, 3)) (ht : (pc : Int) + off = (tgt : Int)) (kt : 0 < x → G X M d tgt lv st h rv h') (kf : ¬ 0 < x → G X M d (pc + 3) lv st h rv h') : G X M d pc lv (.int x :: st) h rv h' :=
  G.br kt kf fun l dC dI cA base b p e R s m args below meth c H locs cells slots mc ms ls Q hC h1 h2 => lv_if_gt hC.1.1 hC.1.2.1 hd ht h1 h2
theorem G.if_le {x : Int32} {off : Int} (tgt : Nat) (hd : decode M.2.2.1 pc = .ok (.ifCond .le off, 3)) (ht : (pc : Int) + off = (tgt : Int)) (kt : x ≤ 0 → G X M d tgt lv st h rv h') (kf : ¬ x ≤ 0 → G X M d (pc + 3) lv st h rv h') : G X M d pc lv (.int x :: st) h rv h' :=
  G.br kt kf fun l dC dI cA base b p e R s m args below meth c H locs cells slots mc ms ls Q hC h1 h2 => lv_if_le hC.1.1 hC.1.2.1 hd ht h1 h2
theorem G.icmp_eq {x y : Int32} {off : Int} (tgt : Nat) (hd : decode M.2.2.1 pc = .ok (.if_icmp .eq off, 3)) (ht : (pc : Int) + off = (tgt : Int)) (kt : x = y → G X M d tgt lv st h rv h') (kf : ¬ x = y → G X M d (pc + 3) lv st h rv h') : G X M d pc lv (.int y :: .int x :: st) h rv h' :=
  G.br kt kf fun l dC dI cA base b p e R s m args below meth c H locs cells slots mc ms ls Q hC h1 h2 => lv_icmp_eq hC.1.1 hC.1.2.1 hd ht h1 h2
theorem G.icmp_ne {x y : Int32} {off : Int} (tgt : Nat) (hd : decode M.2.2.1 pc = .ok (.if_icmp .ne off, 3)) (ht : (pc : Int) + off = (tgt : Int)) (kt : ¬ x = y → G X M d tgt lv st h rv h') (kf : x = y → G X M d (pc + 3) lv st h rv h') : G X M d pc lv (.int y :: .int x :: st) h rv h' :=
  G.br (c := ¬ x = y) kt (fun q => kf (Decidable.of_not_not q)) fun l dC dI cA base b p e R s m args below meth c H locs cells slots mc ms ls Q hC h1 h2 => lv_icmp_ne hC.1.1 hC.1.2.1 hd ht h1 (fun q => h2 (fun z => z q))
theorem G.icmp_lt {x y : Int32} {off : Int} (tgt : Nat) (hd : decode M.2.2.1 pc = .ok (.if_icmp .lt off, 3)) (ht : (pc : Int) + off = (tgt : Int)) (kt : x < y → G X M d tgt lv st h rv h') (kf : ¬ x < y → G X M d (pc + 3) lv st h rv h') : G X M d pc lv (.int y :: .int x :: st) h rv h' :=
  G.br kt kf fun l dC dI cA base b p e R s m args below meth c H locs cells slots mc ms ls Q hC h1 h2 => lv_icmp_lt hC.1.1 hC.1.2.1 hd ht h1 h2
theorem G.icmp_ge {x y : Int32} {off : Int} (tgt : Nat) (hd : decode M.2.2.1 pc = .ok (.if_icmp .ge off, 3)) (ht : (pc : Int) + off = (tgt : Int)) (kt : y ≤ x → G X M d tgt lv st h rv h') (kf : ¬ y ≤ x → G X M d (pc + 3) lv st h rv h') : G X M d pc lv (.int y :: .int x :: st) h rv h' :=
  G.br kt kf fun l dC dI cA base b p e R s m args below meth c H locs cells slots mc ms ls Q hC h1 h2 => lv_icmp_ge hC.1.1 hC.1.2.1 hd ht h1 h2
theorem G.icmp_gt {x y : Int32} {off : Int} (tgt : Nat) (hd : decode M.2.2.1 pc = .ok (.if_icmp .gt off, 3)) (ht : (pc : Int) + off = (tgt : Int)) (kt : y < x → G X M d tgt lv st h rv h') (kf : ¬ y < x → G X M d (pc + 3) lv st h rv h') : G X M d pc lv (.int y :: .int x :: st) h rv h' :=
  G.br kt kf fun l dC dI cA base b p e R s m args below meth c H locs cells slots mc ms ls Q hC h1 h2 => lv_icmp_gt hC.1.1 hC.1.2.1 hd ht h1 h2
theorem G.icmp_le {x y : Int32} {off : Int} (tgt : Nat) (hd : decode M.2.2.1 pc = .ok (.if_icmp .le off, 3)) (ht : (pc : Int) + off = (tgt : Int)) (kt : x ≤ y → G X M d tgt lv st h rv h') (kf : ¬ x ≤ y → G X M d (pc + 3) lv st h rv h') : G X M d pc lv (.int y :: .int x :: st) h rv h' :=
  G.br kt kf fun l dC dI cA base b p e R s m args below meth c H locs cells slots mc ms ls Q hC h1 h2 => lv_icmp_le hC.1.1 hC.1.2.1 hd ht h1 h2
/-- switches: outside the table, and at each of its places -/
theorem G.tswOut {dflt lo hi : Int} {offs : Array Int} {len : Nat} {x : Int32} (tgt : Nat) (hd : decode M.2.2.1 pc = .ok (.tableswitch dflt lo hi offs, len)) (hx : x.toInt < lo ∨ hi < x.toInt) (ht : (pc : Int) + dflt = (tgt : Int)) (k : G X M d tgt lv st h rv h') : G X M d pc lv (.int x :: st) h rv h' :=
  G.of k fun l dC dI cA base b p e R s m args below meth c H locs cells slots mc ms ls Q hC hW => lv_tableOut hC.1.1 hC.1.2.1 hd hx ht hW
theorem G.tswIn {dflt lo hi : Int} {offs : Array Int} {len : Nat} {x : Int32} {off : Int} (tgt : Nat) (hd : decode M.2.2.1 pc = .ok (.tableswitch dflt lo hi offs, len)) (h1 : ¬ x.toInt < lo) (h2 : ¬ hi < x.toInt) (ho : offs[(x.toInt - lo).toNat]? = some off) (ht : (pc : Int) + off = (tgt : Int)) (k : G X M d tgt lv st h rv h') : G X M d pc lv (.int x :: st) h rv h' :=
  G.of k fun l dC dI cA base b p e R s m args below meth c H locs cells slots mc ms ls Q hC hW => lv_tableIn hC.1.1 hC.1.2.1 hd h1 h2 ho ht hW
theorem G.lsw {dflt : Int} {ps : Array (Int × Int)} {len : Nat} {x : Int32} {off : Int} (tgt : Nat) (hd : decode M.2.2.1 pc = .ok (.lookupswitch dflt ps, len)) (hp : (ps.toList.zip (ps.toList.drop 1)).all (fun (a, next) => a.1 < next.1) = true) (ho : Op.lookupswitch.offset ps.toList dflt x.toInt = off) (ht : (pc : Int) + off = (tgt : Int)) (k : G X M d tgt lv st h rv h') : G X M d pc lv (.int x :: st) h rv h' :=
  G.of k fun l dC dI cA base b p e R s m args below meth c H locs cells slots mc ms ls Q hC hW => lv_lookup hC.1.1 hC.1.2.1 hd hp ho ht hW
theorem G.ldc {idx : Nat} {v : Int32} (hw : Cond.constant M.1 idx v ∈ lwg) (hd : decode M.2.2.1 pc = .ok (.ldc idx, 2)) (k : G X M d (pc + 2) lv (.int v :: st) h rv h') : G X M d pc lv st h rv h' :=
  G.of k fun l dC dI cA base b p e R s m args below meth c H locs cells slots mc ms ls Q hC hW => lv_ldc hC.1.1 hC.1.2.1 hC.1.2.2.2.2.2.1 (hC.1.2.2.2.2.2.2.2 _ hw) hd hW
theorem G.ldcw {idx : Nat} {v : Int32} (hw : Cond.constant M.1 idx v ∈ lwg) (hd : decode M.2.2.1 pc = .ok (.ldc_w idx, 3)) (k : G X M d (pc + 3) lv (.int v :: st) h rv h') : G X M d pc lv st h rv h' :=
  G.of k fun l dC dI cA base b p e R s m args below meth c H locs cells slots mc ms ls Q hC hW => lv_ldcw hC.1.1 hC.1.2.1 hC.1.2.2.2.2.2.1 (hC.1.2.2.2.2.2.2.2 _ hw) hd hW
theorem G.ldc2 {idx : Nat} {v : Int64} (hw : Cond.constantLong M.1 idx v ∈ lwg) (hd : decode M.2.2.1 pc = .ok (.ldc2_w idx, 3)) (k : G X M d (pc + 3) lv (.long v :: st) h rv h') : G X M d pc lv st h rv h' :=
  G.of k fun l dC dI cA base b p e R s m args below meth c H locs cells slots mc ms ls Q hC hW => lv_ldc2 hC.1.1 hC.1.2.1 hC.1.2.2.2.2.2.1 (hC.1.2.2.2.2.2.2.2 _ hw) hd hW
/-- returns -/
theorem G.iret {ty : FieldType} {v : Int32} (hr : M.2.2.2.2 = some ty) (hn : narrow ty (.int v) = .int v) (hd : decode M.2.2.1 pc = .ok (.ireturn, 1)) : G X M d pc lv [.int v] h (some v) h := by
  refine ⟨⟨Nat.le_refl _, Nat.le_refl _⟩, fun l dC dI cA base b p e R s m args below meth c H locs cells slots mc ms ls hC => ?_⟩
  obtain ⟨⟨hx, hb, hml, hret, hlocks, hown, hnm, hts⟩, ⟨hK, hX, hN⟩, hP, hS, hbase, hl, -, ⟨hc1, hc2⟩, -⟩ := hC
  refine W.widen (k := mc) (n := ms) (by omega) (by omega) ?_
  exact W.zret (ty := ty) hx hb (hret.trans hr) hn (fun t ht hW => ⟨rfl, by rw [ht]; exact hP, ⟨va_K.moved hW.alike hK, ⟨by rw [ht]; exact hX.1.moved hW.alike, hX.2⟩, hN.warm hW⟩, hS.F ht⟩) (fun q hq => hS.2.2 q hq) hd hlocks
theorem G.vret (hr : M.2.2.2.2 = none) (hd : decode M.2.2.1 pc = .ok (.return_, 1)) : G X M d pc lv [] h none h := by
  refine ⟨⟨Nat.le_refl _, Nat.le_refl _⟩, fun l dC dI cA base b p e R s m args below meth c H locs cells slots mc ms ls hC => ?_⟩
  obtain ⟨⟨hx, hb, hml, hret, hlocks, hown, hnm, hts⟩, ⟨hK, hX, hN⟩, hP, hS, hbase, hl, -, ⟨hc1, hc2⟩, -⟩ := hC
  refine W.widen (k := mc) (n := ms) (by omega) (by omega) ?_
  exact W.vret hx hb (hret.trans hr) (fun t ht hW => ⟨rfl, by rw [ht]; exact hP, ⟨va_K.moved hW.alike hK, ⟨by rw [ht]; exact hX.1.moved hW.alike, hX.2⟩, hN.warm hW⟩, hS.F ht⟩) (fun q hq => hS.2.2 q hq) hd hlocks
end GB
/-- a class of the list: number, name, fields, types -/
def CI (ci : Nat) (C : String) (T : u_T) (N : Nat) (ty : Nat → FieldType) : Prop := vwCl[ci]? = some (C, T, N) ∧ (∀ w ∈ u_ws C T N, w ∈ lwg) ∧ (∀ k, k < N → parseFieldDescriptor (T k).2.2.1 = some (ty k)) ∧ (∀ a, a < N → ∀ b, b < N → a ≠ b → (T a).2.1 ≠ (T b).2.1)
/-- a field that the entry idx of own's pool names: class number, place, type, final -/
def Fl (own : String) (idx ci k : Nat) (ty : FieldType) (fin : Bool) : Prop := ∃ (C : String) (T : u_T) (N : Nat) (tyf : Nat → FieldType), CI ci C T N tyf ∧ k < N ∧ Cond.fieldLink own idx (T k).1 (T k).2.1 (T k).2.2.1 ∈ lwg ∧ tyf k = ty ∧ (T k).2.2.2 = fin ∧ (fin = true → (T k).1 = own)
theorem oget_spec {h : AH} {ci a k : Nat} {v : Value} (e : oget h ci a k = some v) : ∃ fs, h[a]? = some (.inr (ci, fs)) ∧ fs[k]? = some v := by
  unfold oget at e
  split at e
  · rename_i c fs he
    split at e
    · rename_i hc
      subst hc
      exact ⟨fs, he, e⟩
    · cases e
  · cases e
theorem pf_spec {h h1 : AH} {ci a k : Nat} {v : Value} (e : pf h ci a k v = some h1) : ∃ fs, h[a]? = some (.inr (ci, fs)) ∧ k < fs.length ∧ h1 = h.set a (.inr (ci, fs.set k v)) := by
  unfold pf at e
  split at e
  · rename_i c fs he
    split at e
    · rename_i hc
      obtain ⟨rfl, hk⟩ := hc
      exact ⟨fs, he, hk, (Option.some.inj e).symm⟩
    · cases e
  · cases e
section GF
variable {X : SX} {M : MD} {d pc : Nat} {lv lv' : Lv} {st : List Value} {h h' : AH} {rv : Option Int32}
theorem G.get {idx ci a k : Nat} {ty : FieldType} {fin : Bool} {v : Value} (hf : Fl M.1 idx ci k ty fin) (hd : decode M.2.2.1 pc = .ok (.getfield idx, 3)) (hv : oget h ci a k = some v) (kk : G X M d (pc + 3) lv (v :: st) h rv h') : G X M d pc lv (.ref a :: st) h rv h' :=
  G.of kk fun l dC dI cA base b p e R s m args below meth c H locs cells slots mc ms ls Q hC hW => by
    obtain ⟨C, T, N, tyf, hCI, hk, hlk, -, -, -⟩ := hf
    obtain ⟨fs, h1, h2⟩ := oget_spec hv
    exact va_get hC.1.1 hC.1.2.1 hC.1.2.2.2.2.2.2.2 hCI.2.1 hC.1.2.2.2.2.2.1 hC.2.1.1 hC.2.2.1.1 a (con_at h1) hCI.1 k hk (hC.1.2.2.2.2.2.2.2 _ hlk) (fun x hx => hx) (v := shv base b v) (by rw [List.getElem?_map, h2]; rfl) hd hW
theorem G.geti {α : Type} {F : Int32 → Option α} {r : α} {idx ci a k : Nat} {ty : FieldType} {fin : Bool} (hf : Fl M.1 idx ci k ty fin) (hd : decode M.2.2.1 pc = .ok (.getfield idx, 3)) (hb : (gi h ci a k).bind F = some r) (kk : ∀ x, F x = some r → G X M d (pc + 3) lv (.int x :: st) h rv h') : G X M d pc lv (.ref a :: st) h rv h' := by
  obtain ⟨x, e1, e2⟩ := Option.bind_eq_some_iff.mp hb
  refine G.get hf hd (v := .int x) ?_ (kk x e2)
  unfold gi at e1
  split at e1
  · rename_i q; cases e1; exact q
  · cases e1
theorem G.getl {α : Type} {F : Int64 → Option α} {r : α} {idx ci a k : Nat} {ty : FieldType} {fin : Bool} (hf : Fl M.1 idx ci k ty fin) (hd : decode M.2.2.1 pc = .ok (.getfield idx, 3)) (hb : (gl h ci a k).bind F = some r) (kk : ∀ x, F x = some r → G X M d (pc + 3) lv (.long x :: st) h rv h') : G X M d pc lv (.ref a :: st) h rv h' := by
  obtain ⟨x, e1, e2⟩ := Option.bind_eq_some_iff.mp hb
  refine G.get hf hd (v := .long x) ?_ (kk x e2)
  unfold gl at e1
  split at e1
  · rename_i q; cases e1; exact q
  · cases e1
theorem G.getr {α : Type} {F : Nat → Option α} {r : α} {idx ci a k : Nat} {ty : FieldType} {fin : Bool} (hf : Fl M.1 idx ci k ty fin) (hd : decode M.2.2.1 pc = .ok (.getfield idx, 3)) (hb : (gr h ci a k).bind F = some r) (kk : ∀ x, F x = some r → G X M d (pc + 3) lv (.ref x :: st) h rv h') : G X M d pc lv (.ref a :: st) h rv h' := by
  obtain ⟨x, e1, e2⟩ := Option.bind_eq_some_iff.mp hb
  refine G.get hf hd (v := .ref x) ?_ (kk x e2)
  unfold gr at e1
  split at e1
  · rename_i q; cases e1; exact q
  · cases e1
theorem G.put {α : Type} {F : AH → Option α} {r : α} {idx ci a k : Nat} {ty : FieldType} {fin : Bool} {v : Value} (hf : Fl M.1 idx ci k ty fin) (hfin : fin = false ∨ M.2.1.name = "<init>") (hv : ∀ base b, narrow ty (shv base b v) = shv base b v ∧ fits ty (shv base b v) = true) (hd : decode M.2.2.1 pc = .ok (.putfield idx, 3)) (hb : (pf h ci a k v).bind F = some r) (kk : ∀ h1, F h1 = some r → G X M d (pc + 3) lv st h1 rv h') : G X M d pc lv (v :: .ref a :: st) h rv h' := by
  obtain ⟨h1, e1, e2⟩ := Option.bind_eq_some_iff.mp hb
  obtain ⟨fs, f1, f2, rfl⟩ := pf_spec e1
  obtain ⟨k1, k2⟩ := kk _ e2
  have hlen : (h.set a (.inr (ci, fs.set k v))).length = h.length := List.length_set
  have hasz : asz (h.set a (.inr (ci, fs.set k v))) = asz h := asz_set h a _ _ f1 (by simp [ces])
  refine ⟨⟨by rw [← hlen]; exact k1.1, by rw [← hasz]; exact k1.2⟩, fun l dC dI cA base b p e R s m args below meth c H locs cells slots mc ms ls hC => ?_⟩
  obtain ⟨C, T, N, tyf, hCI, hk, hlk, hty, hfi, hdecl⟩ := hf
  subst hty
  have hfin' : (T k).2.2.2 = false ∨ ((T k).2.2.2 = true ∧ meth.name = "<init>" ∧ (T k).1 = M.1) := by
    cases hq : (T k).2.2.2 with
    | false => exact Or.inl rfl
    | true =>
      rw [hq] at hfi
      subst hfi
      rcases hfin with z | z
      · cases z
      · exact Or.inr ⟨rfl, hC.1.2.2.2.2.2.2.1.trans z, hdecl rfl⟩
  refine wq_put (A := fun q => base ≤ q) hC.1.1 hC.1.2.1 hC.1.2.2.2.2.2.2.2 hCI.2.1 tyf hCI.2.2.1 hCI.2.2.2 hC.1.2.2.2.2.2.1 hC.2.1.1 hC.2.2.1.1 (con_D h) hC.2.2.2.1 a (con_at f1) hCI.1 k hk (hC.1.2.2.2.2.2.2.2 _ hlk) hfin' (hv base b).1 (hv base b).2 (by rw [List.length_map]; exact f2) hd fun H1 locs1 hP1 hz oq hS1 => ?_
  refine k2 l dC dI cA base b p e R s m args below meth c H1 locs1 cells slots mc ms ls (hC.heap ?_ hz (fun q hq => oq q (by omega)) hS1 hlen hasz)
  rw [con_set, Nat.zero_add]
  show va_P _ _ ((con base b cA 0 h).set a (base + a, .inr (ci, (fs.set k v).map (shv base b)))) H1
  rw [List.map_set]
  exact hP1
end GF
end
section
/-- kinds of arrays: 0 int, 1 char, 2 boolean, 3 long, 4 Night, 5 Image -/
theorem ai_spec {h : AH} {kd a : Nat} {i x : Int32} (e : ai h kd a i = some x) : ∃ (n : Nat) (f : Nat → Int32), h[a]? = some (.inl (kd, n, .inl f)) ∧ vp_in i n ∧ x = f i.toNatClampNeg := by
  unfold ai at e
  split at e
  · rename_i q n f he
    split at e
    · rename_i hc
      obtain ⟨rfl, hk⟩ := hc
      exact ⟨n, f, he, hk, (Option.some.inj e).symm⟩
    · cases e
  · cases e
theorem al_spec {h : AH} {kd a : Nat} {i : Int32} {x : Int64} (e : al h kd a i = some x) : ∃ (n : Nat) (f : Nat → Int64), h[a]? = some (.inl (kd, n, .inr (.inl f))) ∧ vp_in i n ∧ x = f i.toNatClampNeg := by
  unfold al at e
  split at e
  · rename_i q n f he
    split at e
    · rename_i hc
      obtain ⟨rfl, hk⟩ := hc
      exact ⟨n, f, he, hk, (Option.some.inj e).symm⟩
    · cases e
  · cases e
theorem ar_spec {h : AH} {kd a : Nat} {i : Int32} {x : Nat} (e : ar h kd a i = some x) : ∃ (n : Nat) (f : Nat → Option Nat), h[a]? = some (.inl (kd, n, .inr (.inr (.inr (.inr f))))) ∧ vp_in i n ∧ f i.toNatClampNeg = some x := by
  unfold ar at e
  split at e
  · rename_i q n f he
    split at e
    · rename_i hc
      obtain ⟨rfl, hk⟩ := hc
      exact ⟨n, f, he, hk, e⟩
    · cases e
  · cases e
theorem aw_spec {h h1 : AH} {kd a : Nat} {i x : Int32} (e : aw h kd a i x = some h1) : ∃ (n : Nat) (f : Nat → Int32), h[a]? = some (.inl (kd, n, .inl f)) ∧ vp_in i n ∧ h1 = h.set a (.inl (kd, n, .inl (upd f i.toNatClampNeg x))) := by
  unfold aw at e
  split at e
  · rename_i q n f he
    split at e
    · rename_i hc
      obtain ⟨rfl, hk⟩ := hc
      exact ⟨n, f, he, hk, (Option.some.inj e).symm⟩
    · cases e
  · cases e
theorem alw_spec {h h1 : AH} {kd a : Nat} {i : Int32} {x : Int64} (e : alw h kd a i x = some h1) : ∃ (n : Nat) (f : Nat → Int64), h[a]? = some (.inl (kd, n, .inr (.inl f))) ∧ vp_in i n ∧ h1 = h.set a (.inl (kd, n, .inr (.inl (vp_updL f i.toNatClampNeg x)))) := by
  unfold alw at e
  split at e
  · rename_i q n f he
    split at e
    · rename_i hc
      obtain ⟨rfl, hk⟩ := hc
      exact ⟨n, f, he, hk, (Option.some.inj e).symm⟩
    · cases e
  · cases e
theorem arw_spec {h h1 : AH} {kd ci a v : Nat} {i : Int32} (e : arw h kd ci a i v = some h1) : ∃ (n : Nat) (f : Nat → Option Nat) (vs : List Value), h[a]? = some (.inl (kd, n, .inr (.inr (.inr (.inr f))))) ∧ h[v]? = some (.inr (ci, vs)) ∧ vp_in i n ∧ h1 = h.set a (.inl (kd, n, .inr (.inr (.inr (.inr (va_up f i.toNatClampNeg (some v))))))) := by
  unfold arw at e
  split at e
  · rename_i q n f c vs he hv
    split at e
    · rename_i hc
      obtain ⟨⟨rfl, rfl⟩, hk⟩ := hc
      exact ⟨n, f, vs, he, hv, hk, (Option.some.inj e).symm⟩
    · cases e
  · cases e
theorem acp_spec {h h1 : AH} {a0 a : Nat} {sp dp n : Int32} (e : acp h a0 sp a dp n = some h1) : ∃ (n0 n1 : Nat) (f g : Nat → Int32), h[a0]? = some (.inl (0, n0, .inl f)) ∧ h[a]? = some (.inl (0, n1, .inl g)) ∧ (¬ sp < 0 ∧ ¬ dp < 0 ∧ ¬ n < 0) ∧ sp.toNatClampNeg + n.toNatClampNeg ≤ n0 ∧ dp.toNatClampNeg + n.toNatClampNeg ≤ n1 ∧ h1 = h.set a (.inl (0, n1, .inl (va_cpy f g sp.toNatClampNeg dp.toNatClampNeg n.toNatClampNeg))) := by
  unfold acp at e
  split at e
  · rename_i q0 n0 f q1 n1 g he hv
    split at e
    · rename_i hc
      obtain ⟨⟨rfl, rfl⟩, hk, h4, h5⟩ := hc
      exact ⟨n0, n1, f, g, he, hv, hk, h4, h5, (Option.some.inj e).symm⟩
    · cases e
  · cases e
theorem she_q (base b : Nat) (cA : Nat → ClassId) (q n : Nat) (f : Nat → Option Nat) (i v : Nat) : she base b cA (.inl (q, n, .inr (.inr (.inr (.inr (va_up f i (some v))))))) = .inl (cA q, n, .inr (.inr (.inr (.inr (va_up (fun i => (f i).map (fun a => base + a)) i (some (base + v))))))) := by
  have key : (fun j => (va_up f i (some v) j).map (fun a => base + a)) = va_up (fun i => (f i).map (fun a => base + a)) i (some (base + v)) := by
    funext j
    by_cases hj : j = i
    · simp [va_up, hj]
    · simp [va_up, hj]
  show (Sum.inl (cA q, n, .inr (.inr (.inr (.inr (fun j => (va_up f i (some v) j).map (fun a => base + a)))))) : va_E) = _
  rw [key]
section GA
variable {X : SX} {M : MD} {d pc : Nat} {lv lv' : Lv} {st : List Value} {h h' : AH} {rv : Option Int32}
theorem G.iald {α : Type} {F : Int32 → Option α} {r : α} {a : Nat} {i : Int32} (hd : decode M.2.2.1 pc = .ok (.iaload, 1)) (hb : (ai h 0 a i).bind F = some r) (kk : ∀ x, F x = some r → G X M d (pc + 1) lv (.int x :: st) h rv h') : G X M d pc lv (.int i :: .ref a :: st) h rv h' := by
  obtain ⟨x, e1, e2⟩ := Option.bind_eq_some_iff.mp hb
  obtain ⟨n, f, f1, f2, rfl⟩ := ai_spec e1
  exact G.of (kk _ e2) fun l dC dI cA base b p e R s m args below meth c H locs cells slots mc ms ls Q hC hW => va_iald hC.1.1 hC.1.2.1 hC.2.1.1 hC.2.2.1.1 a 0 (con_at f1) rfl f2 hd hW
theorem G.cald {α : Type} {F : Int32 → Option α} {r : α} {a : Nat} {i : Int32} (hd : decode M.2.2.1 pc = .ok (.caload, 1)) (hb : (ai h 1 a i).bind F = some r) (kk : ∀ x, F x = some r → G X M d (pc + 1) lv (.int x :: st) h rv h') : G X M d pc lv (.int i :: .ref a :: st) h rv h' := by
  obtain ⟨x, e1, e2⟩ := Option.bind_eq_some_iff.mp hb
  obtain ⟨n, f, f1, f2, rfl⟩ := ai_spec e1
  exact G.of (kk _ e2) fun l dC dI cA base b p e R s m args below meth c H locs cells slots mc ms ls Q hC hW => va_cald hC.1.1 hC.1.2.1 hC.2.1.1 hC.2.2.1.1 a 1 (con_at f1) rfl f2 hd hW
theorem G.zald {α : Type} {F : Int32 → Option α} {r : α} {a : Nat} {i : Int32} (hd : decode M.2.2.1 pc = .ok (.baload, 1)) (hb : (ai h 2 a i).bind F = some r) (kk : ∀ x, F x = some r → G X M d (pc + 1) lv (.int x :: st) h rv h') : G X M d pc lv (.int i :: .ref a :: st) h rv h' := by
  obtain ⟨x, e1, e2⟩ := Option.bind_eq_some_iff.mp hb
  obtain ⟨n, f, f1, f2, rfl⟩ := ai_spec e1
  exact G.of (kk _ e2) fun l dC dI cA base b p e R s m args below meth c H locs cells slots mc ms ls Q hC hW => va_zald hC.1.1 hC.1.2.1 hC.2.1.1 hC.2.2.1.1 a 2 (con_at f1) rfl f2 hd hW
theorem G.lald {α : Type} {F : Int64 → Option α} {r : α} {a : Nat} {i : Int32} (hd : decode M.2.2.1 pc = .ok (.laload, 1)) (hb : (al h 3 a i).bind F = some r) (kk : ∀ x, F x = some r → G X M d (pc + 1) lv (.long x :: st) h rv h') : G X M d pc lv (.int i :: .ref a :: st) h rv h' := by
  obtain ⟨x, e1, e2⟩ := Option.bind_eq_some_iff.mp hb
  obtain ⟨n, f, f1, f2, rfl⟩ := al_spec e1
  exact G.of (kk _ e2) fun l dC dI cA base b p e R s m args below meth c H locs cells slots mc ms ls Q hC hW => va_lald hC.1.1 hC.1.2.1 hC.2.1.1 hC.2.2.1.1 a 3 (con_at f1) rfl f2 hd hW
theorem G.aald {α : Type} {F : Nat → Option α} {r : α} {kd a : Nat} {C : String} {i : Int32} (hkd : (kd = 4 ∧ C = RX4) ∨ (kd = 5 ∧ C = RX2)) (hd : decode M.2.2.1 pc = .ok (.aaload, 1)) (hb : (ar h kd a i).bind F = some r) (kk : ∀ x, F x = some r → G X M d (pc + 1) lv (.ref x :: st) h rv h') : G X M d pc lv (.int i :: .ref a :: st) h rv h' := by
  obtain ⟨x, e1, e2⟩ := Option.bind_eq_some_iff.mp hb
  obtain ⟨n, f, f1, f2, f3⟩ := ar_spec e1
  refine G.of (kk _ e2) fun l dC dI cA base b p e R s m args below meth c H locs cells slots mc ms ls Q hC hW => ?_
  refine va_aldq (C := C) hC.1.1 hC.1.2.1 hC.2.1.1 hC.2.2.1.1 a kd (con_at f1) ?_ f2 hd ?_
  · rcases hkd with ⟨rfl, rfl⟩ | ⟨rfl, rfl⟩ <;> rfl
  · rw [f3]
    exact hW
theorem G.iast {α : Type} {F : AH → Option α} {r : α} {a : Nat} {i x : Int32} (hd : decode M.2.2.1 pc = .ok (.iastore, 1)) (hb : (aw h 0 a i x).bind F = some r) (kk : ∀ h1, F h1 = some r → G X M d (pc + 1) lv st h1 rv h') : G X M d pc lv (.int x :: .int i :: .ref a :: st) h rv h' := by
  obtain ⟨h1, e1, e2⟩ := Option.bind_eq_some_iff.mp hb
  obtain ⟨n, f, f1, f2, rfl⟩ := aw_spec e1
  obtain ⟨k1, k2⟩ := kk _ e2
  have hlen : (h.set a (.inl (0, n, .inl (upd f i.toNatClampNeg x)))).length = h.length := List.length_set
  have hasz : asz (h.set a (.inl (0, n, .inl (upd f i.toNatClampNeg x)))) = asz h := asz_set h a _ _ f1 rfl
  refine ⟨⟨by rw [← hlen]; exact k1.1, by rw [← hasz]; exact k1.2⟩, fun l dC dI cA base b p e R s m args below meth c H locs cells slots mc ms ls hC => ?_⟩
  refine wq_iast (A := fun q => base ≤ q) (ty := .int) hC.1.1 hC.1.2.1 hC.2.1.1 hC.2.2.1.1 (con_D h) hC.2.2.2.1 a 0 (con_at f1) (Or.inl rfl) rfl f2 hd fun H1 locs1 hP1 hz oq hS1 => ?_
  refine k2 l dC dI cA base b p e R s m args below meth c H1 locs1 cells slots mc ms ls (hC.heap ?_ hz (fun q hq => oq q (by omega)) hS1 hlen hasz)
  rw [con_set, Nat.zero_add]
  exact hP1
theorem G.cast {α : Type} {F : AH → Option α} {r : α} {a : Nat} {i x : Int32} (hd : decode M.2.2.1 pc = .ok (.castore, 1)) (hb : (aw h 1 a i (vp_nar .char x)).bind F = some r) (kk : ∀ h1, F h1 = some r → G X M d (pc + 1) lv st h1 rv h') : G X M d pc lv (.int x :: .int i :: .ref a :: st) h rv h' := by
  obtain ⟨h1, e1, e2⟩ := Option.bind_eq_some_iff.mp hb
  obtain ⟨n, f, f1, f2, rfl⟩ := aw_spec e1
  obtain ⟨k1, k2⟩ := kk _ e2
  have hlen : (h.set a (.inl (1, n, .inl (upd f i.toNatClampNeg (vp_nar .char x))))).length = h.length := List.length_set
  have hasz : asz (h.set a (.inl (1, n, .inl (upd f i.toNatClampNeg (vp_nar .char x))))) = asz h := asz_set h a _ _ f1 rfl
  refine ⟨⟨by rw [← hlen]; exact k1.1, by rw [← hasz]; exact k1.2⟩, fun l dC dI cA base b p e R s m args below meth c H locs cells slots mc ms ls hC => ?_⟩
  refine wq_iast (A := fun q => base ≤ q) (ty := .char) hC.1.1 hC.1.2.1 hC.2.1.1 hC.2.2.1.1 (con_D h) hC.2.2.2.1 a 1 (con_at f1) (Or.inr (Or.inl rfl)) rfl f2 hd fun H1 locs1 hP1 hz oq hS1 => ?_
  refine k2 l dC dI cA base b p e R s m args below meth c H1 locs1 cells slots mc ms ls (hC.heap ?_ hz (fun q hq => oq q (by omega)) hS1 hlen hasz)
  rw [con_set, Nat.zero_add]
  exact hP1
theorem G.zast {α : Type} {F : AH → Option α} {r : α} {a : Nat} {i x : Int32} (hd : decode M.2.2.1 pc = .ok (.bastore, 1)) (hb : (aw h 2 a i (vp_nar .boolean x)).bind F = some r) (kk : ∀ h1, F h1 = some r → G X M d (pc + 1) lv st h1 rv h') : G X M d pc lv (.int x :: .int i :: .ref a :: st) h rv h' := by
  obtain ⟨h1, e1, e2⟩ := Option.bind_eq_some_iff.mp hb
  obtain ⟨n, f, f1, f2, rfl⟩ := aw_spec e1
  obtain ⟨k1, k2⟩ := kk _ e2
  have hlen : (h.set a (.inl (2, n, .inl (upd f i.toNatClampNeg (vp_nar .boolean x))))).length = h.length := List.length_set
  have hasz : asz (h.set a (.inl (2, n, .inl (upd f i.toNatClampNeg (vp_nar .boolean x))))) = asz h := asz_set h a _ _ f1 rfl
  refine ⟨⟨by rw [← hlen]; exact k1.1, by rw [← hasz]; exact k1.2⟩, fun l dC dI cA base b p e R s m args below meth c H locs cells slots mc ms ls hC => ?_⟩
  refine wq_iast (A := fun q => base ≤ q) (ty := .boolean) hC.1.1 hC.1.2.1 hC.2.1.1 hC.2.2.1.1 (con_D h) hC.2.2.2.1 a 2 (con_at f1) (Or.inr (Or.inr rfl)) rfl f2 hd fun H1 locs1 hP1 hz oq hS1 => ?_
  refine k2 l dC dI cA base b p e R s m args below meth c H1 locs1 cells slots mc ms ls (hC.heap ?_ hz (fun q hq => oq q (by omega)) hS1 hlen hasz)
  rw [con_set, Nat.zero_add]
  exact hP1
theorem G.last {α : Type} {F : AH → Option α} {r : α} {a : Nat} {i : Int32} {x : Int64} (hd : decode M.2.2.1 pc = .ok (.lastore, 1)) (hb : (alw h 3 a i x).bind F = some r) (kk : ∀ h1, F h1 = some r → G X M d (pc + 1) lv st h1 rv h') : G X M d pc lv (.long x :: .int i :: .ref a :: st) h rv h' := by
  obtain ⟨h1, e1, e2⟩ := Option.bind_eq_some_iff.mp hb
  obtain ⟨n, f, f1, f2, rfl⟩ := alw_spec e1
  obtain ⟨k1, k2⟩ := kk _ e2
  have hlen : (h.set a (.inl (3, n, .inr (.inl (vp_updL f i.toNatClampNeg x))))).length = h.length := List.length_set
  have hasz : asz (h.set a (.inl (3, n, .inr (.inl (vp_updL f i.toNatClampNeg x))))) = asz h := asz_set h a _ _ f1 rfl
  refine ⟨⟨by rw [← hlen]; exact k1.1, by rw [← hasz]; exact k1.2⟩, fun l dC dI cA base b p e R s m args below meth c H locs cells slots mc ms ls hC => ?_⟩
  refine wq_last (A := fun q => base ≤ q) hC.1.1 hC.1.2.1 hC.2.1.1 hC.2.2.1.1 (con_D h) hC.2.2.2.1 a 3 (con_at f1) rfl f2 hd fun H1 locs1 hP1 hz oq hS1 => ?_
  refine k2 l dC dI cA base b p e R s m args below meth c H1 locs1 cells slots mc ms ls (hC.heap ?_ hz (fun q hq => oq q (by omega)) hS1 hlen hasz)
  rw [con_set, Nat.zero_add]
  exact hP1
theorem G.aast {α : Type} {F : AH → Option α} {r : α} {kd ci a v : Nat} {i : Int32} {q0 : vw_C} (hkd : (kd = 4 ∧ q0.1 = RX4) ∨ (kd = 5 ∧ q0.1 = RX2)) (hc : vwCl[ci]? = some q0) (hd : decode M.2.2.1 pc = .ok (.aastore, 1)) (hb : (arw h kd ci a i v).bind F = some r) (kk : ∀ h1, F h1 = some r → G X M d (pc + 1) lv st h1 rv h') : G X M d pc lv (.ref v :: .int i :: .ref a :: st) h rv h' := by
  obtain ⟨h1, e1, e2⟩ := Option.bind_eq_some_iff.mp hb
  obtain ⟨n, f, vs, f1, f3, f2, rfl⟩ := arw_spec e1
  obtain ⟨k1, k2⟩ := kk _ e2
  have hlen : (h.set a (.inl (kd, n, .inr (.inr (.inr (.inr (va_up f i.toNatClampNeg (some v)))))))).length = h.length := List.length_set
  have hasz : asz (h.set a (.inl (kd, n, .inr (.inr (.inr (.inr (va_up f i.toNatClampNeg (some v)))))))) = asz h := asz_set h a _ _ f1 rfl
  refine ⟨⟨by rw [← hlen]; exact k1.1, by rw [← hasz]; exact k1.2⟩, fun l dC dI cA base b p e R s m args below meth c H locs cells slots mc ms ls hC => ?_⟩
  refine wq_astq (A := fun q => base ≤ q) hC.1.1 hC.1.2.1 hC.2.1.1 hC.2.2.1.1 (con_D h) hC.2.2.2.1 a kd v ci (r := q0) (con_at f1) ?_ (con_at f3) hc f2 hd fun H1 locs1 hP1 hz oq hS1 => ?_
  · rcases hkd with ⟨rfl, e⟩ | ⟨rfl, e⟩ <;> rw [e] <;> rfl
  · refine k2 l dC dI cA base b p e R s m args below meth c H1 locs1 cells slots mc ms ls (hC.heap ?_ hz (fun q hq => oq q (by omega)) hS1 hlen hasz)
    rw [con_set, Nat.zero_add, she_q]
    exact hP1
/-- the script -/
theorem G.slen {z : UInt32} (hd : decode M.2.2.1 pc = .ok (.arraylength, 1)) (k : G X M d (pc + 1) lv (.int (Int32.ofNat X.1) :: st) h rv h') : G X M d pc lv (.float z :: st) h rv h' :=
  G.of k fun l dC dI cA base b p e R s m args below meth c H locs cells slots mc ms ls Q hC hW => by
    obtain ⟨scr, h1, h2, h3, h4, h5⟩ := hC.2.1.2.1.1
    exact W.alen (n := Int32.ofNat X.1) hC.1.1 hC.1.2.1 h1 h2 (by rw [h4] <;> rfl) rfl rfl hd hW
theorem G.sld {z : UInt32} {i : Int32} (hi : vp_in i X.1) (hd : decode M.2.2.1 pc = .ok (.iaload, 1)) (k : G X M d (pc + 1) lv (.int (X.2 i.toNatClampNeg) :: st) h rv h') : G X M d pc lv (.int i :: .float z :: st) h rv h' :=
  G.of k fun l dC dI cA base b p e R s m args below meth c H locs cells slots mc ms ls Q hC hW => by
    obtain ⟨scr, h1, h2, h3, h4, h5⟩ := hC.2.1.2.1.1
    have hlt : i.toNatClampNeg < X.1 := Nat.not_le.mp fun q => hi (Or.inr q)
    exact W.iald (v := .int (X.2 i.toNatClampNeg)) hC.1.1 hC.1.2.1 h1 h2 h3 (by rw [h4]; exact hi) (h5 _ hlt) rfl rfl hd hW
/-- Math.max, min, abs -/
theorem st_cat (base b : Nat) (st : List Value) : ((st.map (shv base b)).map fun v => v.category).sum = (st.map fun v => v.category).sum := by
  rw [List.map_map]
  congr 1
  apply List.map_congr_left
  intro v _
  exact shv_cat base b v
theorem G.max {idx : Nat} {x y : Int32} (hw : Cond.methodLink M.1 idx Lib.Math.max.name ∈ lwg ∧ Cond.static Lib.Math.max.name ∈ lwg ∧ Cond.initialized "java/lang/Math" ∈ lwg ∧ Cond.code Lib.Math.max.name Lib.Math.max.code 2 (some .int) ∈ lwg) (hs : (st.map fun v => v.category).sum ≤ 8) (hd : decode M.2.2.1 pc = .ok (.invokestatic idx, 3)) (k : G X M (d + 1) (pc + 3) lv (.int (if x < y then y else x) :: st) h rv h') : G X M (d + 1) pc lv (.int y :: .int x :: st) h rv h' := by
  have hmono := k.1
  refine G.of k fun l dC dI cA base b p e R s m args below meth c H locs cells slots mc ms ls Q hC hW => ?_
  obtain ⟨⟨hx, hb, hml, hret, hlocks, hown, hnm, hts⟩, hK, hP, hS, hbase, hl, ⟨hr1, hr2⟩, ⟨hc1, hc2⟩, hc3, hc4⟩ := hC
  exact va_mmax hx hb (hml.trans hl.1.symm) hown (hts _ hw.1) (hts _ hw.2.1) (hts _ hw.2.2.1) (hts _ hw.2.2.2) (by omega) (by rw [st_cat]; omega) (by omega) (by omega) hd hW
theorem G.min {idx : Nat} {x y : Int32} (hw : Cond.methodLink M.1 idx Lib.Math.min.name ∈ lwg ∧ Cond.static Lib.Math.min.name ∈ lwg ∧ Cond.initialized "java/lang/Math" ∈ lwg ∧ Cond.code Lib.Math.min.name Lib.Math.min.code 2 (some .int) ∈ lwg) (hs : (st.map fun v => v.category).sum ≤ 8) (hd : decode M.2.2.1 pc = .ok (.invokestatic idx, 3)) (k : G X M (d + 1) (pc + 3) lv (.int (if y < x then y else x) :: st) h rv h') : G X M (d + 1) pc lv (.int y :: .int x :: st) h rv h' := by
  have hmono := k.1
  refine G.of k fun l dC dI cA base b p e R s m args below meth c H locs cells slots mc ms ls Q hC hW => ?_
  obtain ⟨⟨hx, hb, hml, hret, hlocks, hown, hnm, hts⟩, hK, hP, hS, hbase, hl, ⟨hr1, hr2⟩, ⟨hc1, hc2⟩, hc3, hc4⟩ := hC
  exact va_mmin hx hb (hml.trans hl.1.symm) hown (hts _ hw.1) (hts _ hw.2.1) (hts _ hw.2.2.1) (hts _ hw.2.2.2) (by omega) (by rw [st_cat]; omega) (by omega) (by omega) hd hW
theorem G.abs {idx : Nat} {x : Int32} (hw : Cond.methodLink M.1 idx Lib.Math.abs.name ∈ lwg ∧ Cond.static Lib.Math.abs.name ∈ lwg ∧ Cond.initialized "java/lang/Math" ∈ lwg ∧ Cond.code Lib.Math.abs.name Lib.Math.abs.code 1 (some .int) ∈ lwg) (hs : (st.map fun v => v.category).sum ≤ 8) (hd : decode M.2.2.1 pc = .ok (.invokestatic idx, 3)) (k : G X M (d + 1) (pc + 3) lv (.int (if 0 ≤ x then x else 0 - x) :: st) h rv h') : G X M (d + 1) pc lv (.int x :: st) h rv h' := by
  have hmono := k.1
  refine G.of k fun l dC dI cA base b p e R s m args below meth c H locs cells slots mc ms ls Q hC hW => ?_
  obtain ⟨⟨hx, hb, hml, hret, hlocks, hown, hnm, hts⟩, hK, hP, hS, hbase, hl, ⟨hr1, hr2⟩, ⟨hc1, hc2⟩, hc3, hc4⟩ := hC
  exact va_mabs hx hb (hml.trans hl.1.symm) hown (hts _ hw.1) (hts _ hw.2.1) (hts _ hw.2.2.1) (hts _ hw.2.2.2) (by omega) (by rw [st_cat]; omega) (by omega) (by omega) hd hW
theorem G.acopy {α : Type} {F : AH → Option α} {r : α} {idx a0 a : Nat} {sp dp n : Int32} (hw : Cond.methodLink M.1 idx arraycopyName ∈ lwg ∧ Cond.native arraycopyName ∈ lwg ∧ Cond.static arraycopyName ∈ lwg ∧ Cond.initialized "java/lang/System" ∈ lwg) (hs : (st.map fun v => v.category).sum ≤ 8) (hd : decode M.2.2.1 pc = .ok (.invokestatic idx, 3)) (hb : (acp h a0 sp a dp n).bind F = some r) (kk : ∀ h1, F h1 = some r → G X M (d + 1) (pc + 3) lv st h1 rv h') : G X M (d + 1) pc lv (.int n :: .int dp :: .ref a :: .int sp :: .ref a0 :: st) h rv h' := by
  obtain ⟨h1, e1, e2⟩ := Option.bind_eq_some_iff.mp hb
  obtain ⟨n0, n1, f, g, f1, f2, ⟨g1, g2, g3⟩, g4, g5, rfl⟩ := acp_spec e1
  obtain ⟨k1, k2⟩ := kk _ e2
  have hlen : (h.set a (.inl (0, n1, .inl (va_cpy f g sp.toNatClampNeg dp.toNatClampNeg n.toNatClampNeg)))).length = h.length := List.length_set
  have hasz : asz (h.set a (.inl (0, n1, .inl (va_cpy f g sp.toNatClampNeg dp.toNatClampNeg n.toNatClampNeg)))) = asz h := asz_set h a _ _ f2 rfl
  refine ⟨⟨by rw [← hlen]; exact k1.1, by rw [← hasz]; exact k1.2⟩, fun l dC dI cA base b p e R s m args below meth c H locs cells slots mc ms ls hC => ?_⟩
  have hC0 := hC
  obtain ⟨⟨hx, hb, hml, hret, hlocks, hown, hnm, hts⟩, hK, hP, hS, hbase, hl, ⟨hr1, hr2⟩, ⟨hc1, hc2⟩, hc3, hc4⟩ := hC
  have hnw : nativeFrameWords "java/lang/System" "arraycopy" 5 ≤ 40 := by decide
  refine wq_copyi (A := fun q => base ≤ q) hx hb (hml.trans hl.1.symm) hown (hts _ hw.1) (hts _ hw.2.1) (hts _ hw.2.2.1) (hts _ hw.2.2.2) hK.1 hP.1 (con_D h) hS a0 a 0 (con_at f1) (con_at f2) rfl g1 g2 g3 g4 g5 (by omega) (by rw [st_cat]; omega) hd fun H1 locs1 hP1 hz oq hS1 => ?_
  refine k2 l dC dI cA base b p e R s m args below meth c H1 locs1 cells slots mc ms ls (hC0.heap ?_ hz (fun q hq => oq q (by omega)) hS1 hlen hasz)
  rw [con_set, Nat.zero_add]
  exact hP1
end GA
end
section
section GN
variable {X : SX} {M : MD} {d pc : Nat} {lv lv' : Lv} {st : List Value} {h h' : AH} {rv : Option Int32}
/-- a frame stands on a larger heap -/
theorem Cx.grow {dC : Nat → ClassId} {dI : Nat → Nat → Nat} {cA : Nat → ClassId} {base b : Nat} {p : Program} {R : Room} {s : State} {m : MethodId} {args : Array Value} {meth : Method} {c : Code} {H : Heap} {locs : List Loc} {cells slots mc ms : Nat} {ls : Array Slot}
    (hC : Cx X M d lv h h' dC dI cA base b p R s m args meth c H locs cells slots mc ms ls) {e0 : va_E} {H1 : Heap} (hP1 : va_P (dC, dI) vwCl (con base b cA 0 h ++ [(H.size, she base b cA e0)]) H1) (hz : H1.size = H.size + 1) (oq : ∀ q : Nat, q < H.size → H1[q]? = H[q]?) (hS : va_S (fun q => base ≤ q) s.heap H1 locs) :
    Cx X M d lv (h ++ [e0]) h' dC dI cA base b p R s m args meth c H1 locs (cells + 1) (slots + ces e0) mc ms ls := by
  obtain ⟨g1, ⟨k1, ⟨k2, k3⟩, k4⟩, ⟨g3, g4⟩, g5, g6, g7, g8, ⟨g9, g10⟩, g11⟩ := hC
  refine ⟨g1, ⟨k1, ⟨k2.kept (oq b (by omega)), k3⟩, k4⟩, ⟨?_, by rw [hz, g4, List.length_append]; simp; omega⟩, hS, g6, g7, g8, ⟨by rw [List.length_append]; simp; omega, by rw [asz_app]; omega⟩, g11⟩
  rw [con_app, Nat.zero_add, ← g4]
  exact hP1
theorem G.new {idx ci N : Nat} {C : String} {T : u_T} {ty : Nat → FieldType} {fs : List Value} (hCI : CI ci C T N ty) (hw : Cond.classLink M.1 idx C ∈ lwg ∧ Cond.instantiable C N ∈ lwg ∧ Cond.initialized C ∈ lwg) (hfs : fs.length = N ∧ ∀ j, j < N → defaultValue (ty j) = vp_V fs j) (hfr : ∀ base b, fs.map (shv base b) = fs) (hd : decode M.2.2.1 pc = .ok (.new idx, 3)) (k : G X M d (pc + 3) lv (.ref h.length :: st) (h ++ [.inr (ci, fs)]) rv h') : G X M d pc lv st h rv h' := by
  obtain ⟨k1, k2⟩ := k
  rw [asz_app, List.length_append, show ([(.inr (ci, fs) : va_E)] : List va_E).length = 1 from rfl, show ces (.inr (ci, fs)) = fs.length from rfl, hfs.1] at k1
  refine ⟨⟨by omega, by omega⟩, fun l dC dI cA base b p e R s m args below meth c H locs cells slots mc ms ls hC => ?_⟩
  have hC0 := hC
  obtain ⟨⟨hx, hb, hml, hret, hlocks, hown, hnm, hts⟩, hK, hP, hS, hbase, hl, hr, ⟨hc1, hc2⟩, hc3, hc4⟩ := hC
  refine wq_new (A := fun q => base ≤ q) hx hb hts hCI.2.1 ty hCI.2.2.1 hown (hts _ hw.1) (hts _ hw.2.1) (hts _ hw.2.2) hK.1 hP.1 hS hCI.1 hfs.2 (by omega) (by omega) hd fun H1 hP1 hz oq hS1 => ?_
  have hC1 := hC0.grow (e0 := .inr (ci, fs)) (by show va_P _ _ (_ ++ [(H.size, .inr (ci, fs.map (shv base b)))]) _; rw [hfr]; exact hP1) hz oq hS1
  rw [show ces (.inr (ci, fs)) = N from hfs.1] at hC1
  have := k2 l dC dI cA base b p e R s m args below meth c H1 locs (cells + 1) (slots + N) mc ms ls hC1
  rw [List.map_cons, show shv base b (.ref h.length) = .ref H.size by rw [hP.2]; rfl] at this
  exact this
theorem G.newa {kd N : Nat} {n : Int32} {atype : ArrayType} {a0 : vp_A} (hw : Cond.arrayClass (newarray.typeOf atype) ∈ lwg) (hkd : ∀ cA : Nat → ClassId, (tyl cA)[kd]? = some (cA kd, newarray.typeOf atype)) (ha : (∀ base b cA, she base b cA (.inl (kd, a0)) = .inl (cA kd, a0)) ∧ (∀ cA : ClassId, vp_cell cA a0 = arrV cA N (fun _ => defaultValue (newarray.typeOf atype))) ∧ a0.1 = N) (hn : ¬ n < 0) (hN : n.toNatClampNeg = N) (hbytes : N * componentBytes (newarray.typeOf atype) ≤ 536870912) (hd : decode M.2.2.1 pc = .ok (.newarray atype, 2)) (k : G X M d (pc + 2) lv (.ref h.length :: st) (h ++ [.inl (kd, a0)]) rv h') : G X M d pc lv (.int n :: st) h rv h' := by
  obtain ⟨k1, k2⟩ := k
  have hces : ces (.inl (kd, a0)) = N := ha.2.2
  rw [asz_app, List.length_append, show ([(.inl (kd, a0) : va_E)] : List va_E).length = 1 from rfl, hces] at k1
  refine ⟨⟨by omega, by omega⟩, fun l dC dI cA base b p e R s m args below meth c H locs cells slots mc ms ls hC => ?_⟩
  have hC0 := hC
  obtain ⟨⟨hx, hb, hml, hret, hlocks, hown, hnm, hts⟩, hK, hP, hS, hbase, hl, hr, ⟨hc1, hc2⟩, hc3, hc4⟩ := hC
  have hRA := (hK.1.2 kd _ (hkd cA)).2
  have hcA : s.vm.findClass ("[" ++ (newarray.typeOf atype).toString) = some (cA kd) := by cases atype <;> exact hRA
  refine wq_newa (A := fun q => base ≤ q) hx hb (hts _ hw) hP.1 hS (a0 := a0) hcA (ha.2.1 _) hn hN hbytes (by omega) (by omega) hd fun H1 hP1 hz oq hS1 => ?_
  have hC1 := hC0.grow (e0 := .inl (kd, a0)) (by rw [ha.1]; exact hP1) hz oq hS1
  rw [hces] at hC1
  have := k2 l dC dI cA base b p e R s m args below meth c H1 locs (cells + 1) (slots + N) mc ms ls hC1
  rw [List.map_cons, show shv base b (.ref h.length) = .ref H.size by rw [hP.2]; rfl] at this
  exact this
theorem G.newq {idx kd N : Nat} {n : Int32} {C : String} (hw : Cond.classLink M.1 idx C ∈ lwg) (hkd : (kd = 4 ∧ C = RX4) ∨ (kd = 5 ∧ C = RX2)) (hn : ¬ n < 0) (hN : n.toNatClampNeg = N) (hbytes : N * 4 ≤ 536870912) (hd : decode M.2.2.1 pc = .ok (.anewarray idx, 3)) (k : G X M d (pc + 3) lv (.ref h.length :: st) (h ++ [.inl (kd, N, .inr (.inr (.inr (.inr (fun _ => none)))))]) rv h') : G X M d pc lv (.int n :: st) h rv h' := by
  obtain ⟨k1, k2⟩ := k
  have hces : ces (.inl (kd, N, .inr (.inr (.inr (.inr (fun _ => none)))))) = N := rfl
  rw [asz_app, List.length_append, hces] at k1
  simp only [List.length_cons, List.length_nil, Nat.zero_add] at k1
  refine ⟨⟨by omega, by omega⟩, fun l dC dI cA base b p e R s m args below meth c H locs cells slots mc ms ls hC => ?_⟩
  have hC0 := hC
  obtain ⟨⟨hx, hb, hml, hret, hlocks, hown, hnm, hts⟩, hK, hP, hS, hbase, hl, hr, ⟨hc1, hc2⟩, hc3, hc4⟩ := hC
  have hkk : (tyl cA)[kd]? = some (cA kd, .object C) := by rcases hkd with ⟨rfl, rfl⟩ | ⟨rfl, rfl⟩ <;> rfl
  have hover : va_AO C s := by
    rcases hkd with ⟨-, rfl⟩ | ⟨-, rfl⟩
    · exact hK.2.2.2.1
    · exact hK.2.2.2.2
  obtain ⟨kA, comp, -, -, -, hcA⟩ := (hK.1.2 kd _ hkk).2
  refine wq_newq (A := fun q => base ≤ q) hx hb hown (hts _ hw) hover hP.1 hS hcA hn hN hbytes (by omega) (by omega) hd fun H1 hP1 hz oq hS1 => ?_
  have hC1 := hC0.grow (e0 := .inl (kd, N, .inr (.inr (.inr (.inr (fun _ => none)))))) hP1 hz oq hS1
  rw [hces] at hC1
  have := k2 l dC dI cA base b p e R s m args below meth c H1 locs (cells + 1) (slots + N) mc ms ls hC1
  rw [List.map_cons, show shv base b (.ref h.length) = .ref H.size by rw [hP.2]; rfl] at this
  exact this
theorem G.oinit {idx a : Nat} (hw : Cond.methodLink M.1 idx Lib.objectInit ∈ lwg ∧ Cond.instanceMethod Lib.objectInit ∈ lwg ∧ Cond.code Lib.objectInit ⟨#[0xb1]⟩ 1 none ∈ lwg) (hs : (st.map fun v => v.category).sum ≤ 8) (hd : decode M.2.2.1 pc = .ok (.invokespecial idx, 3)) (k : G X M (d + 1) (pc + 3) lv st h rv h') : G X M (d + 1) pc lv (.ref a :: st) h rv h' := by
  refine G.of k fun l dC dI cA base b p e R s m args below meth c H locs cells slots mc ms ls Q hC hW => ?_
  obtain ⟨⟨hx, hb, hml, hret, hlocks, hown, hnm, hts⟩, hK, hP, hS, hbase, hl, ⟨hr1, hr2⟩, ⟨hc1, hc2⟩, hc3, hc4⟩ := hC
  exact W.objInit hx hb hown (hts _ hw.1) (hts _ hw.2.1) (hts _ hw.2.2) rfl (hl.1.trans hml.symm) rfl hd (by omega) (by show 2 * 0 + _ + 12 ≤ _; rw [st_cat]; omega) hW
end GN
/-! ===== calls ===== -/
/-- what the tables say of a method -/
def MOK (M : MD) (n : Nat) : Prop := Cond.code M.2.1 M.2.2.1 M.2.2.2.1 M.2.2.2.2 ∈ lwg ∧ Cond.initialized M.2.1.cls ∈ lwg ∧ (M.1 = M.2.1.cls ∧ plainName M.2.1.cls = true) ∧ (M.2.1.cls ≠ "java/lang/invoke/MethodHandle" ∧ M.2.1.cls ≠ "java/lang/invoke/VarHandle" ∧ (parseMethodDescriptor M.2.1.desc).map (fun d => d.parameters.length) = some n) ∧ M.2.2.2.1 ≤ 40
def Pcx (X : SX) (dC : Nat → ClassId) (dI : Nat → Nat → Nat) (cA : Nat → ClassId) (base b : Nat) (av : List Value) (h : AH) : Array Value → State → Prop := fun v U =>
  v = (av.map (shv base b)).toArray ∧ Hp dC dI cA base b h U.heap ∧ Kx X dC dI cA base b U U.heap
theorem Pcx.blind {X : SX} {dC : Nat → ClassId} {dI : Nat → Nat → Nat} {cA : Nat → ClassId} {base b : Nat} {av : List Value} {h : AH} : FrameBlind (Pcx X dC dI cA base b av h) := by
  intro a U g mk ⟨q1, q2, q3, ⟨q4, q5⟩, q6, q7, q8⟩
  exact ⟨q1, q2, va_K.moved (u := U) (U := U.calling g mk a) (Vm.Alike.refl U.vm) q3, ⟨va_X.moved (u := U) (U := U.calling g mk a) (Vm.Alike.refl U.vm) q4, q5⟩, fun q hq => va_Nw.same (u := U) rfl rfl (q6 q hq), q7.moved (u := U) (U := U.calling g mk a) (Vm.Alike.refl U.vm), q8.moved (u := U) (U := U.calling g mk a) (Vm.Alike.refl U.vm)⟩
theorem lv_args_sh (base b : Nat) : ∀ (av : List Value) (i : Nat), shl base b (lv_args i av) = lv_args i (av.map (shv base b))
  | [], i => rfl
  | v :: av, i => by
    simp only [List.map_cons, lv_args, shl]
    rw [shv_cat]
    exact congrArg _ (lv_args_sh base b av _)
theorem lg_sl_sh (base b : Nat) : ∀ av : List Value, (lg_sl (av.map (shv base b))).length = (lg_sl av).length
  | [] => rfl
  | v :: av => by
    have ih := lg_sl_sh base b av
    simp only [lg_sl, List.map_cons, List.flatMap_cons, List.length_append] at ih ⊢
    rw [ih, shv_cat]
    by_cases hc : v.category = 2
    · rw [if_pos hc, if_pos hc]; rfl
    · rw [if_neg hc, if_neg hc]; rfl
abbrev rmx (d mc ms : Nat) : Room := { frames := d, cells := mc, slots := ms, locals := 64 * d }
theorem G.met {X : SX} {M : MD} {n d : Nat} {av : List Value} {h h' : AH} {rv : Option Int32} (hM : MOK M n) (hav : (lg_sl av).length ≤ M.2.2.2.1) (k : G X M d 0 (lv_args 0 av) [] h rv h') (l : Launch) (dC : Nat → ClassId) (dI : Nat → Nat → Nat) (cA : Nat → ClassId) (base b : Nat) :
    Met l M.2.1 (Cond.code M.2.1 M.2.2.1 M.2.2.2.1 M.2.2.2.2 :: lwg) (rmx d (h'.length - h.length) (asz h' - asz h)) (Pcx X dC dI cA base b av h) (Qx X dC dI cA base b rv h') (h'.length - h.length) (asz h' - asz h) (fun q => base ≤ q) := by
  refine Met.ofW (cc := M.2.2.1) (maxL := M.2.2.2.1) (ret := M.2.2.2.2) hM.2.2.1.2 rfl ?_
  intro p e s m args below meth c s₁ B hml hv
  obtain ⟨rfl, hP, hK⟩ := hv
  have hts := atoms_spec (ws := Cond.code M.2.1 M.2.2.1 M.2.2.2.1 M.2.2.2.2 :: lwg) B.pre
  have hown : s.vm.findClass M.2.1.cls = some m.cls := findClass_of_methodNamed B.named
  have hnm : meth.name = M.2.1.name := (name_of_methodNamed B.named B.method).1
  have hsl := lg_sl_sh base b av
  have hl := lv_entry (av.map (shv base b)) (n := M.2.2.2.1) (by rw [hsl]; exact hav)
  rw [lg_entry_eq]
  generalize (lg_sl (av.map (shv base b)) ++ List.replicate (M.2.2.2.1 - (lg_sl (av.map (shv base b))).length) Slot.unset).toArray = ls at hl ⊢
  rw [← lv_args_sh] at hl
  have hm := k.1
  exact k.2 l dC dI cA base b p e _ s m _ below meth c s.heap [] 0 0 _ _ ls ⟨⟨B.exec, B.bytes, hml, B.returns, B.notSynchronized, hM.2.2.1.1.symm ▸ hown, hnm, fun w hw => hts w (List.mem_cons_of_mem _ hw)⟩, hK, hP, va_S.rf, by rw [hP.2]; omega, hl, ⟨Nat.le_refl _, Nat.le_refl _⟩, ⟨by omega, by omega⟩, Nat.le_refl _, Nat.le_refl _⟩
section GC
variable {X : SX} {M M' : MD} {d pc n : Nat} {lv lv' : Lv} {st : List Value} {h h1 h' : AH} {rv rv1 : Option Int32}
/-- behind a call -/
theorem wq_after {dC : Nat → ClassId} {dI : Nat → Nat → Nat} {cA : Nat → ClassId} {base b : Nat} {p : Program} {l : Launch} {e : Env} {R : Room} {s : State} {m : MethodId} {args : Array Value} {below : List Frame} {meth : Method} {c : Code} {H : Heap} {locs : List Loc} {cells slots mc ms : Nat} {ls : Array Slot} {Q : State → Prop} {a : Array Value} {st0 rest : List Value}
    (hr : va_Run p l e R s m args below meth c H locs cells slots mc ms (F0 m pc ls st0) rest (Qx X dC dI cA base b rv1 h1 a) (fun q => base ≤ q)) (hS : va_S (fun q => base ≤ q) s.heap H locs) (hb : base ≤ H.size)
    (kk : ∀ (H1 : Heap) (locs1 : List Loc), Hp dC dI cA base b h1 H1 → (∀ q : Nat, q < base → H1[q]? = H[q]?) → va_S (fun q => base ≤ q) s.heap H1 locs1 → W p l e R s m args below meth c H1 locs1 (cells + mc) (slots + ms) Q (F0 m (pc + 3) ls ((rv1.map Value.int).toList ++ rest))) : W p l e R s m args below meth c H locs cells slots Q (F0 m pc ls st0) := by
  intro T hT Xs
  obtain ⟨v, st₀, t, T', L, h0, X', hL, e1, e2, ⟨hv, hHp, -, hz, hk⟩, st⟩ := hr T hT Xs
  have hv' : v = rv1.map Value.int := Outcome.returned.inj hv
  subst hv'
  rw [h0] at hz hk
  obtain ⟨t2, a1, b1⟩ := kk T'.heap (locs ++ L) (by rw [e1]; exact hHp) (fun q hq => by rw [e1]; exact hk q (by omega) (by omega))
    ⟨Nat.le_trans hS.1 (by rw [e1]; exact hz), fun q h1 h2 => by rw [e1, hk q (Nat.lt_of_lt_of_le h1 hS.1) h2]; exact hS.2.1 q h1 h2, fun q hq => by
      rcases List.mem_append.mp hq with h | h
      · exact hS.2.2 q h
      · exact hL q h⟩ T' rfl X'
  exact ⟨t2, st t2 a1, b1⟩
theorem Cx.back {dC : Nat → ClassId} {dI : Nat → Nat → Nat} {cA : Nat → ClassId} {base b : Nat} {p : Program} {R : Room} {s : State} {m : MethodId} {args : Array Value} {meth : Method} {c : Code} {H : Heap} {locs : List Loc} {cells slots mc ms : Nat} {ls : Array Slot}
    (hC : Cx X M d lv h h' dC dI cA base b p R s m args meth c H locs cells slots mc ms ls) {H1 : Heap} {locs1 : List Loc} (hP1 : Hp dC dI cA base b h1 H1) (oq : ∀ q : Nat, q < base → H1[q]? = H[q]?) (hS : va_S (fun q => base ≤ q) s.heap H1 locs1) (m1 : h.length ≤ h1.length ∧ asz h ≤ asz h1) :
    Cx X M d lv h1 h' dC dI cA base b p R s m args meth c H1 locs1 (cells + (h1.length - h.length)) (slots + (asz h1 - asz h)) mc ms ls := by
  obtain ⟨g1, ⟨k1, ⟨k2, k3⟩, k4⟩, g3, g5, g6, g7, g8, ⟨g9, g10⟩, g11⟩ := hC
  exact ⟨g1, ⟨k1, ⟨k2.kept (oq b k3), k3⟩, k4⟩, hP1, hS, g6, g7, g8, ⟨by omega, by omega⟩, g11⟩
/-- the state that a callee begins with -/
theorem Cx.pcx {dC : Nat → ClassId} {dI : Nat → Nat → Nat} {cA : Nat → ClassId} {base b : Nat} {p : Program} {R : Room} {s : State} {m : MethodId} {args : Array Value} {meth : Method} {c : Code} {H : Heap} {locs : List Loc} {cells slots mc ms : Nat} {ls : Array Slot}
    (hC : Cx X M d lv h h' dC dI cA base b p R s m args meth c H locs cells slots mc ms ls) (av : List Value) : ∀ U : State, U.heap = H → s.WarmedH U.vm → Pcx X dC dI cA base b av h (av.map (shv base b)).toArray U := by
  intro U hU hW
  obtain ⟨g1, ⟨k1, ⟨k2, k3⟩, k4⟩, g3, -⟩ := hC
  exact ⟨rfl, by rw [hU]; exact g3, va_K.moved hW.alike k1, ⟨by rw [hU]; exact k2.moved hW.alike, k3⟩, k4.warm hW⟩
def isO (h : AH) (ci a : Nat) : Bool := match h[a]? with
  | some (.inr (c, _)) => c == ci
  | _ => false
theorem isO_spec {h : AH} {ci a : Nat} (e : isO h ci a = true) : ∃ fs, h[a]? = some (.inr (ci, fs)) := by
  unfold isO at e
  split at e
  · rename_i c fs he
    rw [eq_of_beq e] at he
    exact ⟨fs, he⟩
  · cases e
theorem G.callV {idx ci a : Nat} {As st0 : List Value} {q0 : vw_C} (hM : MOK M' As.length) (hvi : Cond.instanceMethod M'.2.1 ∈ lwg ∧ Cond.selects M'.2.1.cls M'.2.1 M'.2.1 ∈ lwg) (hlk : Cond.methodLink M.1 idx M'.2.1 ∈ lwg) (hc : vwCl[ci]? = some q0) (hq : q0.1 = M'.2.1.cls) (hst : st0 = As.reverse ++ .ref a :: st) (hav : (lg_sl (.ref a :: As)).length ≤ M'.2.2.2.1) (hs : (st.map fun v => v.category).sum ≤ 8) (hd : decode M.2.2.1 pc = .ok (.invokevirtual idx, 3))
    (ho : isO h ci a = true) (k1 : G X M' d 0 (lv_args 0 (.ref a :: As)) [] h rv1 h1) (k2 : G X M (d + 1) (pc + 3) lv ((rv1.map Value.int).toList ++ st) h1 rv h') : G X M (d + 1) pc lv st0 h rv h' := by
  obtain ⟨m1, -⟩ := id k1
  obtain ⟨m2, w2⟩ := k2
  refine ⟨⟨by omega, by omega⟩, fun l dC dI cA base b p e R s m args below meth c H locs cells slots mc ms ls hC => ?_⟩
  have hC0 := hC
  have hmet := G.met hM hav k1 l dC dI cA base b
  obtain ⟨fs, hfs⟩ := isO_spec ho
  have hrec := va_recv hC.2.1.1 hC.2.2.1.1 hc (con_at hfs)
  rw [hq] at hrec
  obtain ⟨⟨hx, hb, hml, hret, hlocks, hown, hnm, hts⟩, hK, hP, hS, hbase, hl, ⟨hr1, hr2⟩, ⟨hc1, hc2⟩, hc3, hc4⟩ := hC
  obtain ⟨o1, o2, o3, o4, o5⟩ := hM
  subst hst
  have hpx := hC0.pcx (.ref a :: As)
  refine wq_after (va_runV (As := As.map (shv base b)) (rest := st.map (shv base b)) (b := base + a) (nL := M.2.2.2.1) (n := As.length) ⟨hx, hb, hml, hown, hts⟩ hmet ⟨callB_of As.length hts (lwg_good o1) rfl rfl rfl (hts _ o2) (hts _ hlk) o4 ⟨hr1, by show 8 + (M'.2.2.2.1 + 11) + 64 * d ≤ _; omega⟩, hts _ hvi.1, hts _ hvi.2⟩ ⟨Pcx.blind, hrec, hpx⟩ rfl (by rw [List.length_map]) hl.1 (by simp [List.map_append, List.map_reverse]; rfl) (lv_room (by rw [st_cat]; exact hs)) hd ⟨by omega, by omega⟩) hS (by rw [hP.2]; omega) fun H1 locs1 hP1 oq hS1 => ?_
  have := w2 l dC dI cA base b p e R s m args below meth c H1 locs1 _ _ mc ms ls (hC0.back hP1 oq hS1 m1)
  rw [List.map_append, show ((rv1.map Value.int).toList.map (shv base b)) = (rv1.map Value.int).toList by cases rv1 <;> rfl] at this
  exact this
theorem G.callS {idx : Nat} {As st0 : List Value} (hM : MOK M' As.length) (hvi : Cond.static M'.2.1 ∈ lwg) (hlk : Cond.methodLink M.1 idx M'.2.1 ∈ lwg) (hst : st0 = As.reverse ++ st) (hav : (lg_sl As).length ≤ M'.2.2.2.1) (hs : (st.map fun v => v.category).sum ≤ 8) (hd : decode M.2.2.1 pc = .ok (.invokestatic idx, 3))
    (k1 : G X M' d 0 (lv_args 0 As) [] h rv1 h1) (k2 : G X M (d + 1) (pc + 3) lv ((rv1.map Value.int).toList ++ st) h1 rv h') : G X M (d + 1) pc lv st0 h rv h' := by
  obtain ⟨m1, -⟩ := id k1
  obtain ⟨m2, w2⟩ := k2
  refine ⟨⟨by omega, by omega⟩, fun l dC dI cA base b p e R s m args below meth c H locs cells slots mc ms ls hC => ?_⟩
  have hC0 := hC
  have hmet := G.met hM hav k1 l dC dI cA base b
  obtain ⟨⟨hx, hb, hml, hret, hlocks, hown, hnm, hts⟩, hK, hP, hS, hbase, hl, ⟨hr1, hr2⟩, ⟨hc1, hc2⟩, hc3, hc4⟩ := hC
  obtain ⟨o1, o2, o3, o4, o5⟩ := hM
  subst hst
  have hpx := hC0.pcx As
  refine wq_after (va_runS (As := As.map (shv base b)) (rest := st.map (shv base b)) (nL := M.2.2.2.1) (n := As.length) ⟨hx, hb, hml, hown, hts⟩ hmet ⟨callB_of As.length hts (lwg_good o1) rfl rfl rfl (hts _ o2) (hts _ hlk) o4 ⟨hr1, by show 8 + (M'.2.2.2.1 + 11) + 64 * d ≤ _; omega⟩, hts _ hvi⟩ ⟨Pcx.blind, hpx⟩ rfl (by rw [List.length_map]) hl.1 (by simp [List.map_append, List.map_reverse]) (lv_room (by rw [st_cat]; exact hs)) hd ⟨by omega, by omega⟩) hS (by rw [hP.2]; omega) fun H1 locs1 hP1 oq hS1 => ?_
  have := w2 l dC dI cA base b p e R s m args below meth c H1 locs1 _ _ mc ms ls (hC0.back hP1 oq hS1 m1)
  rw [List.map_append, show ((rv1.map Value.int).toList.map (shv base b)) = (rv1.map Value.int).toList by cases rv1 <;> rfl] at this
  exact this
/-- a constructor: plain, and a nest mate's -/
theorem G.callI {idx a : Nat} {As st0 : List Value} (hM : MOK M' As.length) (hret0 : M'.2.2.2.2 = none ∧ M'.2.1.name = "<init>") (hvi : Cond.instanceMethod M'.2.1 ∈ lwg) (hlk : Cond.methodLink M.1 idx M'.2.1 ∈ lwg ∨ ∃ host, (M.1, idx, M'.2.1, host) ∈ nsl) (hst : st0 = As.reverse ++ .ref a :: st) (hav : (lg_sl (.ref a :: As)).length ≤ M'.2.2.2.1) (hs : (st.map fun v => v.category).sum ≤ 8) (hd : decode M.2.2.1 pc = .ok (.invokespecial idx, 3))
    (k1 : G X M' d 0 (lv_args 0 (.ref a :: As)) [] h rv1 h1) (k2 : G X M (d + 1) (pc + 3) lv ((rv1.map Value.int).toList ++ st) h1 rv h') : G X M (d + 1) pc lv st0 h rv h' := by
  obtain ⟨m1, -⟩ := id k1
  obtain ⟨m2, w2⟩ := k2
  refine ⟨⟨by omega, by omega⟩, fun l dC dI cA base b p e R s m args below meth c H locs cells slots mc ms ls hC => ?_⟩
  have hC0 := hC
  have hmet := G.met hM hav k1 l dC dI cA base b
  obtain ⟨⟨hx, hb, hml, hret, hlocks, hown, hnm, hts⟩, hK, hP, hS, hbase, hl, ⟨hr1, hr2⟩, ⟨hc1, hc2⟩, hc3, hc4⟩ := hC
  obtain ⟨o1, o2, o3, o4, o5⟩ := hM
  subst hst
  have hpx := hC0.pcx (.ref a :: As)
  rw [hret0.1] at o1 hmet
  have hrun : va_Run p l e R s m args below meth c H locs cells slots (h1.length - h.length) (asz h1 - asz h) (F0 m pc ls ((As.reverse ++ .ref a :: st).map (shv base b))) (st.map (shv base b)) (Qx X dC dI cA base b rv1 h1 (Value.ref (base + a) :: As.map (shv base b)).toArray) (fun q => base ≤ q) := by
    rcases hlk with hlk | ⟨host, hlk⟩
    · exact va_runI (As := As.map (shv base b)) (rest := st.map (shv base b)) (b := base + a) (nL := M.2.2.2.1) (n := As.length) ⟨hx, hb, hml, hown, hts⟩ hmet ⟨callB_of As.length hts (lwg_good o1) rfl rfl rfl (hts _ o2) (hts _ hlk) o4 ⟨hr1, by show 8 + (M'.2.2.2.1 + 11) + 64 * d ≤ _; omega⟩, hret0.2, hts _ hvi⟩ ⟨Pcx.blind, hpx⟩ rfl (by rw [List.length_map]) hl.1 (by simp [List.map_append, List.map_reverse]; rfl) (lv_room (by rw [st_cat]; exact hs)) hd ⟨by omega, by omega⟩
    · exact va_runIN (As := As.map (shv base b)) (rest := st.map (shv base b)) (b := base + a) (nL := M.2.2.2.1) (n := As.length) ⟨hx, hb, hml, hown, hts⟩ hmet ⟨va_cnB As.length hts (lwg_good o1) rfl rfl rfl (hK.2.2.1 _ hlk) (hts _ o2) o4 ⟨hr1, by show 8 + (M'.2.2.2.1 + 11) + 64 * d ≤ _; omega⟩, hret0.2, hts _ hvi⟩ ⟨Pcx.blind, hpx⟩ rfl (by rw [List.length_map]) hl.1 (by simp [List.map_append, List.map_reverse]; rfl) (lv_room (by rw [st_cat]; exact hs)) hd ⟨by omega, by omega⟩
  refine wq_after hrun hS (by rw [hP.2]; omega) fun H1 locs1 hP1 oq hS1 => ?_
  have := w2 l dC dI cA base b p e R s m args below meth c H1 locs1 _ _ mc ms ls (hC0.back hP1 oq hS1 m1)
  rw [List.map_append, show ((rv1.map Value.int).toList.map (shv base b)) = (rv1.map Value.int).toList by cases rv1 <;> rfl] at this
  exact this
end GC
end
