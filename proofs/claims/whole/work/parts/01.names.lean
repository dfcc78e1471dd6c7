-- ===== PART A: goes FIRST, ahead of the names: the tables' words, and 'selects' of the private methods out of them =====
/-- a private method of a class that the tables say can be made, by its rows of tables_1 -/
def lw_okq (q : MethodName × Nat) : Prop := (q.1.cls ≠ "java/lang/invoke/MethodHandle" ∧ q.1.cls ≠ "java/lang/invoke/VarHandle") ∧ Cond.instantiable q.1.cls q.2 ∈ tables_1 ∧ Cond.privateMethod q.1 ∈ tables_1 ∧ Cond.instanceMethod q.1 ∈ tables_1
theorem lw_p0 : lw_okq (⟨"TurnBack", "isThere", "(I)Z"⟩, 10) := ⟨⟨by decide +kernel, by decide +kernel⟩, List.mem_of_getElem? (i := 18) (by decide +kernel), List.mem_of_getElem? (i := 267) (by decide +kernel), List.mem_of_getElem? (i := 268) (by decide +kernel)⟩
theorem lw_p1 : lw_okq (⟨"TurnBack$Road", "anotherAtBar", "(I)Z"⟩, 12) := ⟨⟨by decide +kernel, by decide +kernel⟩, List.mem_of_getElem? (i := 26) (by decide +kernel), List.mem_of_getElem? (i := 290) (by decide +kernel), List.mem_of_getElem? (i := 291) (by decide +kernel)⟩
theorem lw_p2 : lw_okq (⟨"TurnBack", "daysToCity", "(I)I"⟩, 10) := ⟨⟨by decide +kernel, by decide +kernel⟩, List.mem_of_getElem? (i := 18) (by decide +kernel), List.mem_of_getElem? (i := 301) (by decide +kernel), List.mem_of_getElem? (i := 302) (by decide +kernel)⟩
theorem lw_p3 : lw_okq (⟨"TurnBack$Road", "walkOn", "(I)V"⟩, 12) := ⟨⟨by decide +kernel, by decide +kernel⟩, List.mem_of_getElem? (i := 26) (by decide +kernel), List.mem_of_getElem? (i := 313) (by decide +kernel), List.mem_of_getElem? (i := 314) (by decide +kernel)⟩
theorem lw_p4 : lw_okq (⟨"TurnBack$SeasonReader", "clause", "()Z"⟩, 4) := ⟨⟨by decide +kernel, by decide +kernel⟩, List.mem_of_getElem? (i := 133) (by decide +kernel), List.mem_of_getElem? (i := 364) (by decide +kernel), List.mem_of_getElem? (i := 365) (by decide +kernel)⟩
theorem lw_p5 : lw_okq (⟨"TurnBack$SeasonReader", "peek", "()I"⟩, 4) := ⟨⟨by decide +kernel, by decide +kernel⟩, List.mem_of_getElem? (i := 133) (by decide +kernel), List.mem_of_getElem? (i := 368) (by decide +kernel), List.mem_of_getElem? (i := 369) (by decide +kernel)⟩
theorem lw_p6 : lw_okq (⟨"TurnBack$SeasonReader", "payClause", "()Z"⟩, 4) := ⟨⟨by decide +kernel, by decide +kernel⟩, List.mem_of_getElem? (i := 133) (by decide +kernel), List.mem_of_getElem? (i := 372) (by decide +kernel), List.mem_of_getElem? (i := 373) (by decide +kernel)⟩
theorem lw_p7 : lw_okq (⟨"TurnBack$SeasonReader", "word", "(Ljava/lang/String;)Z"⟩, 4) := ⟨⟨by decide +kernel, by decide +kernel⟩, List.mem_of_getElem? (i := 133) (by decide +kernel), List.mem_of_getElem? (i := 377) (by decide +kernel), List.mem_of_getElem? (i := 378) (by decide +kernel)⟩
theorem lw_p8 : lw_okq (⟨"TurnBack$SeasonReader", "passes", "(C)Z"⟩, 4) := ⟨⟨by decide +kernel, by decide +kernel⟩, List.mem_of_getElem? (i := 133) (by decide +kernel), List.mem_of_getElem? (i := 429) (by decide +kernel), List.mem_of_getElem? (i := 430) (by decide +kernel)⟩
theorem lw_p9 : lw_okq (⟨"TurnBack$SeasonReader", "number", "()I"⟩, 4) := ⟨⟨by decide +kernel, by decide +kernel⟩, List.mem_of_getElem? (i := 133) (by decide +kernel), List.mem_of_getElem? (i := 433) (by decide +kernel), List.mem_of_getElem? (i := 434) (by decide +kernel)⟩
theorem lw_p10 : lw_okq (⟨"TurnBack$SeasonReader", "expression", "(I)Z"⟩, 4) := ⟨⟨by decide +kernel, by decide +kernel⟩, List.mem_of_getElem? (i := 133) (by decide +kernel), List.mem_of_getElem? (i := 440) (by decide +kernel), List.mem_of_getElem? (i := 441) (by decide +kernel)⟩
theorem lw_p11 : lw_okq (⟨"TurnBack$SeasonReader", "factor", "(I)Z"⟩, 4) := ⟨⟨by decide +kernel, by decide +kernel⟩, List.mem_of_getElem? (i := 133) (by decide +kernel), List.mem_of_getElem? (i := 444) (by decide +kernel), List.mem_of_getElem? (i := 445) (by decide +kernel)⟩
theorem lw_p12 : lw_okq (⟨"TurnBack$SeasonReader", "test", "()Z"⟩, 4) := ⟨⟨by decide +kernel, by decide +kernel⟩, List.mem_of_getElem? (i := 133) (by decide +kernel), List.mem_of_getElem? (i := 448) (by decide +kernel), List.mem_of_getElem? (i := 449) (by decide +kernel)⟩
theorem lw_p13 : lw_okq (⟨"TurnBack", "cheapestPay", "(I)I"⟩, 10) := ⟨⟨by decide +kernel, by decide +kernel⟩, List.mem_of_getElem? (i := 18) (by decide +kernel), List.mem_of_getElem? (i := 487) (by decide +kernel), List.mem_of_getElem? (i := 488) (by decide +kernel)⟩
theorem lw_p14 : lw_okq (⟨"TurnBack", "inCityBy", "(II)I"⟩, 10) := ⟨⟨by decide +kernel, by decide +kernel⟩, List.mem_of_getElem? (i := 18) (by decide +kernel), List.mem_of_getElem? (i := 491) (by decide +kernel), List.mem_of_getElem? (i := 492) (by decide +kernel)⟩
theorem lw_p15 : lw_okq (⟨"TurnBack", "richestPay", "(I)I"⟩, 10) := ⟨⟨by decide +kernel, by decide +kernel⟩, List.mem_of_getElem? (i := 18) (by decide +kernel), List.mem_of_getElem? (i := 501) (by decide +kernel), List.mem_of_getElem? (i := 502) (by decide +kernel)⟩
def lw_privs_1 : List (MethodName × Nat) := [(⟨"TurnBack", "isThere", "(I)Z"⟩, 10), (⟨"TurnBack$Road", "anotherAtBar", "(I)Z"⟩, 12), (⟨"TurnBack", "daysToCity", "(I)I"⟩, 10), (⟨"TurnBack$Road", "walkOn", "(I)V"⟩, 12), (⟨"TurnBack$SeasonReader", "clause", "()Z"⟩, 4), (⟨"TurnBack$SeasonReader", "peek", "()I"⟩, 4), (⟨"TurnBack$SeasonReader", "payClause", "()Z"⟩, 4), (⟨"TurnBack$SeasonReader", "word", "(Ljava/lang/String;)Z"⟩, 4), (⟨"TurnBack$SeasonReader", "passes", "(C)Z"⟩, 4), (⟨"TurnBack$SeasonReader", "number", "()I"⟩, 4), (⟨"TurnBack$SeasonReader", "expression", "(I)Z"⟩, 4), (⟨"TurnBack$SeasonReader", "factor", "(I)Z"⟩, 4), (⟨"TurnBack$SeasonReader", "test", "()Z"⟩, 4), (⟨"TurnBack", "cheapestPay", "(I)I"⟩, 10), (⟨"TurnBack", "inCityBy", "(II)I"⟩, 10), (⟨"TurnBack", "richestPay", "(I)I"⟩, 10)]
theorem lw_r1 : ∀ q ∈ lw_privs_1, lw_okq q := List.forall_mem_cons.mpr ⟨lw_p0, List.forall_mem_cons.mpr ⟨lw_p1, List.forall_mem_cons.mpr ⟨lw_p2, List.forall_mem_cons.mpr ⟨lw_p3, List.forall_mem_cons.mpr ⟨lw_p4, List.forall_mem_cons.mpr ⟨lw_p5, List.forall_mem_cons.mpr ⟨lw_p6, List.forall_mem_cons.mpr ⟨lw_p7, List.forall_mem_cons.mpr ⟨lw_p8, List.forall_mem_cons.mpr ⟨lw_p9, List.forall_mem_cons.mpr ⟨lw_p10, List.forall_mem_cons.mpr ⟨lw_p11, List.forall_mem_cons.mpr ⟨lw_p12, List.forall_mem_cons.mpr ⟨lw_p13, List.forall_mem_cons.mpr ⟨lw_p14, List.forall_mem_cons.mpr ⟨lw_p15, fun _ h => absurd h List.not_mem_nil⟩⟩⟩⟩⟩⟩⟩⟩⟩⟩⟩⟩⟩⟩⟩⟩
theorem lw_p16 : lw_okq (⟨"TurnBack", "smallestBag", "(I)I"⟩, 10) := ⟨⟨by decide +kernel, by decide +kernel⟩, List.mem_of_getElem? (i := 18) (by decide +kernel), List.mem_of_getElem? (i := 505) (by decide +kernel), List.mem_of_getElem? (i := 506) (by decide +kernel)⟩
theorem lw_p17 : lw_okq (⟨"TurnBack", "keepsAllAway", "(II)Z"⟩, 10) := ⟨⟨by decide +kernel, by decide +kernel⟩, List.mem_of_getElem? (i := 18) (by decide +kernel), List.mem_of_getElem? (i := 509) (by decide +kernel), List.mem_of_getElem? (i := 510) (by decide +kernel)⟩
theorem lw_p18 : lw_okq (⟨"TurnBack", "seenComesTrue", "()Z"⟩, 10) := ⟨⟨by decide +kernel, by decide +kernel⟩, List.mem_of_getElem? (i := 18) (by decide +kernel), List.mem_of_getElem? (i := 529) (by decide +kernel), List.mem_of_getElem? (i := 530) (by decide +kernel)⟩
theorem lw_p19 : lw_okq (⟨"TurnBack", "followPlan", "(II)V"⟩, 10) := ⟨⟨by decide +kernel, by decide +kernel⟩, List.mem_of_getElem? (i := 18) (by decide +kernel), List.mem_of_getElem? (i := 571) (by decide +kernel), List.mem_of_getElem? (i := 572) (by decide +kernel)⟩
theorem lw_p20 : lw_okq (⟨"TurnBack$Acts", "own", "(III)I"⟩, 5) := ⟨⟨by decide +kernel, by decide +kernel⟩, List.mem_of_getElem? (i := 172) (by decide +kernel), List.mem_of_getElem? (i := 622) (by decide +kernel), List.mem_of_getElem? (i := 623) (by decide +kernel)⟩
theorem lw_p21 : lw_okq (⟨"TurnBack$Acts", "runFrom", "(IIII)I"⟩, 5) := ⟨⟨by decide +kernel, by decide +kernel⟩, List.mem_of_getElem? (i := 172) (by decide +kernel), List.mem_of_getElem? (i := 626) (by decide +kernel), List.mem_of_getElem? (i := 627) (by decide +kernel)⟩
theorem lw_p22 : lw_okq (⟨"TurnBack$Acts", "run", "(III)I"⟩, 5) := ⟨⟨by decide +kernel, by decide +kernel⟩, List.mem_of_getElem? (i := 172) (by decide +kernel), List.mem_of_getElem? (i := 633) (by decide +kernel), List.mem_of_getElem? (i := 634) (by decide +kernel)⟩
theorem lw_p23 : lw_okq (⟨"TurnBack$Acts", "above", "(IIII)I"⟩, 5) := ⟨⟨by decide +kernel, by decide +kernel⟩, List.mem_of_getElem? (i := 172) (by decide +kernel), List.mem_of_getElem? (i := 637) (by decide +kernel), List.mem_of_getElem? (i := 638) (by decide +kernel)⟩
theorem lw_p24 : lw_okq (⟨"TurnBackModel", "isOne", "(I)Z"⟩, 29) := ⟨⟨by decide +kernel, by decide +kernel⟩, List.mem_of_getElem? (i := 696) (by decide +kernel), List.mem_of_getElem? (i := 816) (by decide +kernel), List.mem_of_getElem? (i := 817) (by decide +kernel)⟩
theorem lw_p25 : lw_okq (⟨"TurnBackModel", "one", "(II)I"⟩, 29) := ⟨⟨by decide +kernel, by decide +kernel⟩, List.mem_of_getElem? (i := 696) (by decide +kernel), List.mem_of_getElem? (i := 820) (by decide +kernel), List.mem_of_getElem? (i := 821) (by decide +kernel)⟩
theorem lw_p26 : lw_okq (⟨"TurnBackModel", "offer", "(I)I"⟩, 29) := ⟨⟨by decide +kernel, by decide +kernel⟩, List.mem_of_getElem? (i := 696) (by decide +kernel), List.mem_of_getElem? (i := 824) (by decide +kernel), List.mem_of_getElem? (i := 825) (by decide +kernel)⟩
theorem lw_p27 : lw_okq (⟨"TurnBackModel", "readFor", "(I)V"⟩, 29) := ⟨⟨by decide +kernel, by decide +kernel⟩, List.mem_of_getElem? (i := 696) (by decide +kernel), List.mem_of_getElem? (i := 828) (by decide +kernel), List.mem_of_getElem? (i := 829) (by decide +kernel)⟩
theorem lw_p28 : lw_okq (⟨"TurnBackModel", "readAll", "()Z"⟩, 29) := ⟨⟨by decide +kernel, by decide +kernel⟩, List.mem_of_getElem? (i := 696) (by decide +kernel), List.mem_of_getElem? (i := 832) (by decide +kernel), List.mem_of_getElem? (i := 833) (by decide +kernel)⟩
theorem lw_p29 : lw_okq (⟨"TurnBackModel", "clause", "()V"⟩, 29) := ⟨⟨by decide +kernel, by decide +kernel⟩, List.mem_of_getElem? (i := 696) (by decide +kernel), List.mem_of_getElem? (i := 836) (by decide +kernel), List.mem_of_getElem? (i := 837) (by decide +kernel)⟩
theorem lw_p30 : lw_okq (⟨"TurnBackModel", "isAt", "(I)Z"⟩, 29) := ⟨⟨by decide +kernel, by decide +kernel⟩, List.mem_of_getElem? (i := 696) (by decide +kernel), List.mem_of_getElem? (i := 840) (by decide +kernel), List.mem_of_getElem? (i := 841) (by decide +kernel)⟩
theorem lw_p31 : lw_okq (⟨"TurnBackModel", "takes", "(I)V"⟩, 29) := ⟨⟨by decide +kernel, by decide +kernel⟩, List.mem_of_getElem? (i := 696) (by decide +kernel), List.mem_of_getElem? (i := 844) (by decide +kernel), List.mem_of_getElem? (i := 845) (by decide +kernel)⟩
def lw_privs_2 : List (MethodName × Nat) := [(⟨"TurnBack", "smallestBag", "(I)I"⟩, 10), (⟨"TurnBack", "keepsAllAway", "(II)Z"⟩, 10), (⟨"TurnBack", "seenComesTrue", "()Z"⟩, 10), (⟨"TurnBack", "followPlan", "(II)V"⟩, 10), (⟨"TurnBack$Acts", "own", "(III)I"⟩, 5), (⟨"TurnBack$Acts", "runFrom", "(IIII)I"⟩, 5), (⟨"TurnBack$Acts", "run", "(III)I"⟩, 5), (⟨"TurnBack$Acts", "above", "(IIII)I"⟩, 5), (⟨"TurnBackModel", "isOne", "(I)Z"⟩, 29), (⟨"TurnBackModel", "one", "(II)I"⟩, 29), (⟨"TurnBackModel", "offer", "(I)I"⟩, 29), (⟨"TurnBackModel", "readFor", "(I)V"⟩, 29), (⟨"TurnBackModel", "readAll", "()Z"⟩, 29), (⟨"TurnBackModel", "clause", "()V"⟩, 29), (⟨"TurnBackModel", "isAt", "(I)Z"⟩, 29), (⟨"TurnBackModel", "takes", "(I)V"⟩, 29)]
theorem lw_r2 : ∀ q ∈ lw_privs_2, lw_okq q := List.forall_mem_cons.mpr ⟨lw_p16, List.forall_mem_cons.mpr ⟨lw_p17, List.forall_mem_cons.mpr ⟨lw_p18, List.forall_mem_cons.mpr ⟨lw_p19, List.forall_mem_cons.mpr ⟨lw_p20, List.forall_mem_cons.mpr ⟨lw_p21, List.forall_mem_cons.mpr ⟨lw_p22, List.forall_mem_cons.mpr ⟨lw_p23, List.forall_mem_cons.mpr ⟨lw_p24, List.forall_mem_cons.mpr ⟨lw_p25, List.forall_mem_cons.mpr ⟨lw_p26, List.forall_mem_cons.mpr ⟨lw_p27, List.forall_mem_cons.mpr ⟨lw_p28, List.forall_mem_cons.mpr ⟨lw_p29, List.forall_mem_cons.mpr ⟨lw_p30, List.forall_mem_cons.mpr ⟨lw_p31, fun _ h => absurd h List.not_mem_nil⟩⟩⟩⟩⟩⟩⟩⟩⟩⟩⟩⟩⟩⟩⟩⟩
theorem lw_p32 : lw_okq (⟨"TurnBackModel", "number", "()I"⟩, 29) := ⟨⟨by decide +kernel, by decide +kernel⟩, List.mem_of_getElem? (i := 696) (by decide +kernel), List.mem_of_getElem? (i := 848) (by decide +kernel), List.mem_of_getElem? (i := 849) (by decide +kernel)⟩
theorem lw_p33 : lw_okq (⟨"TurnBackModel", "isDigit", "()Z"⟩, 29) := ⟨⟨by decide +kernel, by decide +kernel⟩, List.mem_of_getElem? (i := 696) (by decide +kernel), List.mem_of_getElem? (i := 852) (by decide +kernel), List.mem_of_getElem? (i := 853) (by decide +kernel)⟩
theorem lw_p34 : lw_okq (⟨"TurnBackModel", "any", "()Z"⟩, 29) := ⟨⟨by decide +kernel, by decide +kernel⟩, List.mem_of_getElem? (i := 696) (by decide +kernel), List.mem_of_getElem? (i := 856) (by decide +kernel), List.mem_of_getElem? (i := 857) (by decide +kernel)⟩
theorem lw_p35 : lw_okq (⟨"TurnBackModel", "both", "()Z"⟩, 29) := ⟨⟨by decide +kernel, by decide +kernel⟩, List.mem_of_getElem? (i := 696) (by decide +kernel), List.mem_of_getElem? (i := 860) (by decide +kernel), List.mem_of_getElem? (i := 861) (by decide +kernel)⟩
theorem lw_p36 : lw_okq (⟨"TurnBackModel", "factor", "()Z"⟩, 29) := ⟨⟨by decide +kernel, by decide +kernel⟩, List.mem_of_getElem? (i := 696) (by decide +kernel), List.mem_of_getElem? (i := 864) (by decide +kernel), List.mem_of_getElem? (i := 865) (by decide +kernel)⟩
theorem lw_p37 : lw_okq (⟨"TurnBackModel", "test", "()Z"⟩, 29) := ⟨⟨by decide +kernel, by decide +kernel⟩, List.mem_of_getElem? (i := 696) (by decide +kernel), List.mem_of_getElem? (i := 868) (by decide +kernel), List.mem_of_getElem? (i := 869) (by decide +kernel)⟩
theorem lw_p38 : lw_okq (⟨"TurnBackModel", "isAnother", "(I)Z"⟩, 29) := ⟨⟨by decide +kernel, by decide +kernel⟩, List.mem_of_getElem? (i := 696) (by decide +kernel), List.mem_of_getElem? (i := 873) (by decide +kernel), List.mem_of_getElem? (i := 874) (by decide +kernel)⟩
theorem lw_p39 : lw_okq (⟨"TurnBackModel", "gets", "(I)I"⟩, 29) := ⟨⟨by decide +kernel, by decide +kernel⟩, List.mem_of_getElem? (i := 696) (by decide +kernel), List.mem_of_getElem? (i := 877) (by decide +kernel), List.mem_of_getElem? (i := 878) (by decide +kernel)⟩
theorem lw_p40 : lw_okq (⟨"TurnBackModel", "day", "()V"⟩, 29) := ⟨⟨by decide +kernel, by decide +kernel⟩, List.mem_of_getElem? (i := 696) (by decide +kernel), List.mem_of_getElem? (i := 881) (by decide +kernel), List.mem_of_getElem? (i := 882) (by decide +kernel)⟩
theorem lw_p41 : lw_okq (⟨"TurnBackModel", "goes", "(I)V"⟩, 29) := ⟨⟨by decide +kernel, by decide +kernel⟩, List.mem_of_getElem? (i := 696) (by decide +kernel), List.mem_of_getElem? (i := 885) (by decide +kernel), List.mem_of_getElem? (i := 886) (by decide +kernel)⟩
theorem lw_p42 : lw_okq (⟨"TurnBackModel", "change", "(III)I"⟩, 29) := ⟨⟨by decide +kernel, by decide +kernel⟩, List.mem_of_getElem? (i := 696) (by decide +kernel), List.mem_of_getElem? (i := 889) (by decide +kernel), List.mem_of_getElem? (i := 890) (by decide +kernel)⟩
theorem lw_p43 : lw_okq (⟨"TurnBackModel", "isOnTheWay", "(I)Z"⟩, 29) := ⟨⟨by decide +kernel, by decide +kernel⟩, List.mem_of_getElem? (i := 696) (by decide +kernel), List.mem_of_getElem? (i := 901) (by decide +kernel), List.mem_of_getElem? (i := 902) (by decide +kernel)⟩
theorem lw_p44 : lw_okq (⟨"TurnBackModel", "payNow", "()I"⟩, 29) := ⟨⟨by decide +kernel, by decide +kernel⟩, List.mem_of_getElem? (i := 696) (by decide +kernel), List.mem_of_getElem? (i := 926) (by decide +kernel), List.mem_of_getElem? (i := 927) (by decide +kernel)⟩
theorem lw_p45 : lw_okq (⟨"TurnBackModel", "standing", "(I)I"⟩, 29) := ⟨⟨by decide +kernel, by decide +kernel⟩, List.mem_of_getElem? (i := 696) (by decide +kernel), List.mem_of_getElem? (i := 930) (by decide +kernel), List.mem_of_getElem? (i := 931) (by decide +kernel)⟩
theorem lw_p46 : lw_okq (⟨"TurnBackModel", "backs", "()I"⟩, 29) := ⟨⟨by decide +kernel, by decide +kernel⟩, List.mem_of_getElem? (i := 696) (by decide +kernel), List.mem_of_getElem? (i := 934) (by decide +kernel), List.mem_of_getElem? (i := 935) (by decide +kernel)⟩
theorem lw_p47 : lw_okq (⟨"TurnBackModel", "days", "(I)V"⟩, 29) := ⟨⟨by decide +kernel, by decide +kernel⟩, List.mem_of_getElem? (i := 696) (by decide +kernel), List.mem_of_getElem? (i := 942) (by decide +kernel), List.mem_of_getElem? (i := 943) (by decide +kernel)⟩
def lw_privs_3 : List (MethodName × Nat) := [(⟨"TurnBackModel", "number", "()I"⟩, 29), (⟨"TurnBackModel", "isDigit", "()Z"⟩, 29), (⟨"TurnBackModel", "any", "()Z"⟩, 29), (⟨"TurnBackModel", "both", "()Z"⟩, 29), (⟨"TurnBackModel", "factor", "()Z"⟩, 29), (⟨"TurnBackModel", "test", "()Z"⟩, 29), (⟨"TurnBackModel", "isAnother", "(I)Z"⟩, 29), (⟨"TurnBackModel", "gets", "(I)I"⟩, 29), (⟨"TurnBackModel", "day", "()V"⟩, 29), (⟨"TurnBackModel", "goes", "(I)V"⟩, 29), (⟨"TurnBackModel", "change", "(III)I"⟩, 29), (⟨"TurnBackModel", "isOnTheWay", "(I)Z"⟩, 29), (⟨"TurnBackModel", "payNow", "()I"⟩, 29), (⟨"TurnBackModel", "standing", "(I)I"⟩, 29), (⟨"TurnBackModel", "backs", "()I"⟩, 29), (⟨"TurnBackModel", "days", "(I)V"⟩, 29)]
theorem lw_r3 : ∀ q ∈ lw_privs_3, lw_okq q := List.forall_mem_cons.mpr ⟨lw_p32, List.forall_mem_cons.mpr ⟨lw_p33, List.forall_mem_cons.mpr ⟨lw_p34, List.forall_mem_cons.mpr ⟨lw_p35, List.forall_mem_cons.mpr ⟨lw_p36, List.forall_mem_cons.mpr ⟨lw_p37, List.forall_mem_cons.mpr ⟨lw_p38, List.forall_mem_cons.mpr ⟨lw_p39, List.forall_mem_cons.mpr ⟨lw_p40, List.forall_mem_cons.mpr ⟨lw_p41, List.forall_mem_cons.mpr ⟨lw_p42, List.forall_mem_cons.mpr ⟨lw_p43, List.forall_mem_cons.mpr ⟨lw_p44, List.forall_mem_cons.mpr ⟨lw_p45, List.forall_mem_cons.mpr ⟨lw_p46, List.forall_mem_cons.mpr ⟨lw_p47, fun _ h => absurd h List.not_mem_nil⟩⟩⟩⟩⟩⟩⟩⟩⟩⟩⟩⟩⟩⟩⟩⟩
theorem lw_p48 : lw_okq (⟨"TurnBackModel", "cheap", "(IZ)I"⟩, 29) := ⟨⟨by decide +kernel, by decide +kernel⟩, List.mem_of_getElem? (i := 696) (by decide +kernel), List.mem_of_getElem? (i := 954) (by decide +kernel), List.mem_of_getElem? (i := 955) (by decide +kernel)⟩
theorem lw_p49 : lw_okq (⟨"TurnBackModel", "rich", "(I)I"⟩, 29) := ⟨⟨by decide +kernel, by decide +kernel⟩, List.mem_of_getElem? (i := 696) (by decide +kernel), List.mem_of_getElem? (i := 962) (by decide +kernel), List.mem_of_getElem? (i := 963) (by decide +kernel)⟩
theorem lw_p50 : lw_okq (⟨"TurnBackModel", "bag", "(I)I"⟩, 29) := ⟨⟨by decide +kernel, by decide +kernel⟩, List.mem_of_getElem? (i := 696) (by decide +kernel), List.mem_of_getElem? (i := 966) (by decide +kernel), List.mem_of_getElem? (i := 967) (by decide +kernel)⟩
theorem lw_p51 : lw_okq (⟨"TurnBackModel", "fits", "(IIII)I"⟩, 29) := ⟨⟨by decide +kernel, by decide +kernel⟩, List.mem_of_getElem? (i := 696) (by decide +kernel), List.mem_of_getElem? (i := 978) (by decide +kernel), List.mem_of_getElem? (i := 979) (by decide +kernel)⟩
theorem lw_p52 : lw_okq (⟨"TurnBackModel", "isAllSeen", "()Z"⟩, 29) := ⟨⟨by decide +kernel, by decide +kernel⟩, List.mem_of_getElem? (i := 696) (by decide +kernel), List.mem_of_getElem? (i := 982) (by decide +kernel), List.mem_of_getElem? (i := 983) (by decide +kernel)⟩
theorem lw_p53 : lw_okq (⟨"TurnBackModel", "happens", "(II)V"⟩, 29) := ⟨⟨by decide +kernel, by decide +kernel⟩, List.mem_of_getElem? (i := 696) (by decide +kernel), List.mem_of_getElem? (i := 1011) (by decide +kernel), List.mem_of_getElem? (i := 1012) (by decide +kernel)⟩
theorem lw_p54 : lw_okq (⟨"TurnBackModel", "all", "(III)I"⟩, 29) := ⟨⟨by decide +kernel, by decide +kernel⟩, List.mem_of_getElem? (i := 696) (by decide +kernel), List.mem_of_getElem? (i := 1027) (by decide +kernel), List.mem_of_getElem? (i := 1028) (by decide +kernel)⟩
theorem lw_p55 : lw_okq (⟨"TurnBackModel", "byKind", "(IIII)I"⟩, 29) := ⟨⟨by decide +kernel, by decide +kernel⟩, List.mem_of_getElem? (i := 696) (by decide +kernel), List.mem_of_getElem? (i := 1031) (by decide +kernel), List.mem_of_getElem? (i := 1032) (by decide +kernel)⟩
theorem lw_p56 : lw_okq (⟨"TurnBackModel", "body", "(I)I"⟩, 29) := ⟨⟨by decide +kernel, by decide +kernel⟩, List.mem_of_getElem? (i := 696) (by decide +kernel), List.mem_of_getElem? (i := 1035) (by decide +kernel), List.mem_of_getElem? (i := 1036) (by decide +kernel)⟩
def lw_privs_4 : List (MethodName × Nat) := [(⟨"TurnBackModel", "cheap", "(IZ)I"⟩, 29), (⟨"TurnBackModel", "rich", "(I)I"⟩, 29), (⟨"TurnBackModel", "bag", "(I)I"⟩, 29), (⟨"TurnBackModel", "fits", "(IIII)I"⟩, 29), (⟨"TurnBackModel", "isAllSeen", "()Z"⟩, 29), (⟨"TurnBackModel", "happens", "(II)V"⟩, 29), (⟨"TurnBackModel", "all", "(III)I"⟩, 29), (⟨"TurnBackModel", "byKind", "(IIII)I"⟩, 29), (⟨"TurnBackModel", "body", "(I)I"⟩, 29)]
theorem lw_r4 : ∀ q ∈ lw_privs_4, lw_okq q := List.forall_mem_cons.mpr ⟨lw_p48, List.forall_mem_cons.mpr ⟨lw_p49, List.forall_mem_cons.mpr ⟨lw_p50, List.forall_mem_cons.mpr ⟨lw_p51, List.forall_mem_cons.mpr ⟨lw_p52, List.forall_mem_cons.mpr ⟨lw_p53, List.forall_mem_cons.mpr ⟨lw_p54, List.forall_mem_cons.mpr ⟨lw_p55, List.forall_mem_cons.mpr ⟨lw_p56, fun _ h => absurd h List.not_mem_nil⟩⟩⟩⟩⟩⟩⟩⟩⟩
def lw_privs : List (MethodName × Nat) := lw_privs_1 ++ (lw_privs_2 ++ (lw_privs_3 ++ (lw_privs_4)))
def lw_tbl : List Cond := k2_sels lw_privs ++ tables_1
theorem lw_privs_ok : ∀ q ∈ lw_privs, lw_okq q := by
  show ∀ q ∈ lw_privs_1 ++ (lw_privs_2 ++ (lw_privs_3 ++ (lw_privs_4))), lw_okq q
  exact List.forall_mem_append.mpr ⟨lw_r1, List.forall_mem_append.mpr ⟨lw_r2, List.forall_mem_append.mpr ⟨lw_r3, lw_r4⟩⟩⟩
/-! names, fields, codes, decode rows: out of what the task prints -/
def RX0 : String := "TurnBack$Acts"
def TX0 : u_T := fun k => match k with
  | 0 => ("TurnBack$Acts", "trace", "[I", true)
  | 1 => ("TurnBack$Acts", "ran", "I", false)
  | 2 => ("TurnBack$Acts", "number", "I", false)
  | 3 => ("TurnBack$Acts", "v", "I", false)
  | _ => ("TurnBack$Acts", "kind", "I", false)
def tyX0 : Nat → FieldType := fun k => match k with
  | 0 => .array .int
  | 1 => .int
  | 2 => .int
  | 3 => .int
  | _ => .int
abbrev wsX00 : List Cond := u_ws RX0 TX0 5
theorem nmX0 : ∀ a, a < 5 → ∀ b, b < 5 → a ≠ b → (TX0 a).2.1 ≠ (TX0 b).2.1 := by decide +kernel
theorem tyX0_ok : ∀ k, k < 5 → parseFieldDescriptor (TX0 k).2.2.1 = some (tyX0 k) := by decide +kernel
def RX1 : String := "TurnBack$Notes"
def TX1 : u_T := fun k => match k with
  | 0 => ("TurnBack$Notes", "seen", "LTurnBack$Rows;", true)
  | 1 => ("TurnBack$Notes", "plan", "LTurnBack$Rows;", true)
  | _ => ("TurnBack$Notes", "book", "LTurnBack$Rows;", true)
def tyX1 : Nat → FieldType := fun k => match k with
  | 0 => .object "TurnBack$Rows"
  | 1 => .object "TurnBack$Rows"
  | _ => .object "TurnBack$Rows"
abbrev wsX10 : List Cond := u_ws RX1 TX1 3
theorem nmX1 : ∀ a, a < 3 → ∀ b, b < 3 → a ≠ b → (TX1 a).2.1 ≠ (TX1 b).2.1 := by decide +kernel
theorem tyX1_ok : ∀ k, k < 3 → parseFieldDescriptor (TX1 k).2.2.1 = some (tyX1 k) := by decide +kernel
def RX2 : String := "TurnBack$Road"
def TX2 : u_T := fun k => match k with
  | 0 => ("TurnBack$Road", "kind", "[I", true)
  | 1 => ("TurnBack$Road", "v", "[I", true)
  | 2 => ("TurnBack$Road", "worth", "[I", true)
  | 3 => ("TurnBack$Road", "place", "[I", true)
  | 4 => ("TurnBack$Road", "turned", "[I", true)
  | 5 => ("TurnBack$Road", "back", "[Z", true)
  | 6 => ("TurnBack$Road", "rows", "[[I", true)
  | 7 => ("TurnBack$Road", "count", "I", false)
  | 8 => ("TurnBack$Road", "purse", "I", false)
  | 9 => ("TurnBack$Road", "day", "I", false)
  | 10 => ("TurnBack$Road", "season", "LTurnBack$Season;", false)
  | _ => ("TurnBack$Road", "fixedPay", "I", false)
def tyX2 : Nat → FieldType := fun k => match k with
  | 0 => .array .int
  | 1 => .array .int
  | 2 => .array .int
  | 3 => .array .int
  | 4 => .array .int
  | 5 => .array .boolean
  | 6 => .array (.array .int)
  | 7 => .int
  | 8 => .int
  | 9 => .int
  | 10 => .object "TurnBack$Season"
  | _ => .int
abbrev wsX20 : List Cond := u_ws RX2 TX2 12
theorem nmX2 : ∀ a, a < 12 → ∀ b, b < 12 → a ≠ b → (TX2 a).2.1 ≠ (TX2 b).2.1 := by decide +kernel
theorem tyX2_ok : ∀ k, k < 12 → parseFieldDescriptor (TX2 k).2.2.1 = some (tyX2 k) := by decide +kernel
def RX3 : String := "TurnBack$Rows"
def TX3 : u_T := fun k => match k with
  | 0 => ("TurnBack$Rows", "first", "[I", true)
  | 1 => ("TurnBack$Rows", "second", "[I", true)
  | 2 => ("TurnBack$Rows", "third", "[I", true)
  | _ => ("TurnBack$Rows", "count", "I", false)
def tyX3 : Nat → FieldType := fun k => match k with
  | 0 => .array .int
  | 1 => .array .int
  | 2 => .array .int
  | _ => .int
abbrev wsX30 : List Cond := u_ws RX3 TX3 4
theorem nmX3 : ∀ a, a < 4 → ∀ b, b < 4 → a ≠ b → (TX3 a).2.1 ≠ (TX3 b).2.1 := by decide +kernel
theorem tyX3_ok : ∀ k, k < 4 → parseFieldDescriptor (TX3 k).2.2.1 = some (tyX3 k) := by decide +kernel
def RX4 : String := "TurnBack$Season"
def TX4 : u_T := fun k => match k with
  | 0 => ("TurnBack$Season", "code", "[I", true)
  | 1 => ("TurnBack$Season", "length", "I", false)
  | _ => ("TurnBack$Season", "pay", "I", false)
def tyX4 : Nat → FieldType := fun k => match k with
  | 0 => .array .int
  | 1 => .int
  | _ => .int
abbrev wsX40 : List Cond := u_ws RX4 TX4 3
theorem nmX4 : ∀ a, a < 3 → ∀ b, b < 3 → a ≠ b → (TX4 a).2.1 ≠ (TX4 b).2.1 := by decide +kernel
theorem tyX4_ok : ∀ k, k < 3 → parseFieldDescriptor (TX4 k).2.2.1 = some (tyX4 k) := by decide +kernel
def RX5 : String := "TurnBack$SeasonReader"
def TX5 : u_T := fun k => match k with
  | 0 => ("TurnBack$SeasonReader", "text", "[B", true)
  | 1 => ("TurnBack$SeasonReader", "draft", "LTurnBack$Season;", false)
  | 2 => ("TurnBack$SeasonReader", "at", "I", false)
  | _ => ("TurnBack$SeasonReader", "length", "I", false)
def tyX5 : Nat → FieldType := fun k => match k with
  | 0 => .array .byte
  | 1 => .object "TurnBack$Season"
  | 2 => .int
  | _ => .int
abbrev wsX50 : List Cond := u_ws RX5 TX5 4
theorem nmX5 : ∀ a, a < 4 → ∀ b, b < 4 → a ≠ b → (TX5 a).2.1 ≠ (TX5 b).2.1 := by decide +kernel
theorem tyX5_ok : ∀ k, k < 4 → parseFieldDescriptor (TX5 k).2.2.1 = some (tyX5 k) := by decide +kernel
def RX6 : String := "TurnBack$Tape"
def TX6 : u_T := fun k => match k with
  | 0 => ("TurnBack$Tape", "sort", "I", false)
  | 1 => ("TurnBack$Tape", "length", "I", false)
  | _ => ("TurnBack$Tape", "items", "[J", true)
def tyX6 : Nat → FieldType := fun k => match k with
  | 0 => .int
  | 1 => .int
  | _ => .array .long
abbrev wsX60 : List Cond := u_ws RX6 TX6 3
theorem nmX6 : ∀ a, a < 3 → ∀ b, b < 3 → a ≠ b → (TX6 a).2.1 ≠ (TX6 b).2.1 := by decide +kernel
theorem tyX6_ok : ∀ k, k < 3 → parseFieldDescriptor (TX6 k).2.2.1 = some (tyX6 k) := by decide +kernel
def RX7 : String := "TurnBack"
def TX7 : u_T := fun k => match k with
  | 0 => ("TurnBack", "road", "LTurnBack$Road;", true)
  | 1 => ("TurnBack", "trial", "LTurnBack$Road;", true)
  | 2 => ("TurnBack", "imageRoad", "LTurnBack$Road;", true)
  | 3 => ("TurnBack", "notes", "LTurnBack$Notes;", true)
  | 4 => ("TurnBack", "imageNotes", "LTurnBack$Notes;", true)
  | 5 => ("TurnBack", "hasImage", "Z", false)
  | 6 => ("TurnBack", "reader", "LTurnBack$SeasonReader;", true)
  | 7 => ("TurnBack", "seasonCount", "I", false)
  | 8 => ("TurnBack", "acts", "LTurnBack$Acts;", true)
  | _ => ("TurnBack", "tapes", "[LTurnBack$Tape;", true)
def tyX7 : Nat → FieldType := fun k => match k with
  | 0 => .object "TurnBack$Road"
  | 1 => .object "TurnBack$Road"
  | 2 => .object "TurnBack$Road"
  | 3 => .object "TurnBack$Notes"
  | 4 => .object "TurnBack$Notes"
  | 5 => .boolean
  | 6 => .object "TurnBack$SeasonReader"
  | 7 => .int
  | 8 => .object "TurnBack$Acts"
  | _ => .array (.object "TurnBack$Tape")
abbrev wsX70 : List Cond := u_ws RX7 TX7 10
theorem nmX7 : ∀ a, a < 10 → ∀ b, b < 10 → a ≠ b → (TX7 a).2.1 ≠ (TX7 b).2.1 := by decide +kernel
theorem tyX7_ok : ∀ k, k < 10 → parseFieldDescriptor (TX7 k).2.2.1 = some (tyX7 k) := by decide +kernel
def RX8 : String := "TurnBackModel"
def TX8 : u_T := fun k => match k with
  | 0 => ("TurnBackModel", "now", "[I", true)
  | 1 => ("TurnBackModel", "mind", "[I", true)
  | 2 => ("TurnBackModel", "then", "[I", true)
  | 3 => ("TurnBackModel", "kept", "Z", false)
  | 4 => ("TurnBackModel", "forced", "I", false)
  | 5 => ("TurnBackModel", "text", "[I", true)
  | 6 => ("TurnBackModel", "texted", "I", false)
  | 7 => ("TurnBackModel", "rules", "[I", true)
  | 8 => ("TurnBackModel", "sizes", "[I", true)
  | 9 => ("TurnBackModel", "ruled", "I", false)
  | 10 => ("TurnBackModel", "read", "[I", true)
  | 11 => ("TurnBackModel", "size", "I", false)
  | 12 => ("TurnBackModel", "at", "I", false)
  | 13 => ("TurnBackModel", "well", "Z", false)
  | 14 => ("TurnBackModel", "within", "I", false)
  | 15 => ("TurnBackModel", "sum", "I", false)
  | 16 => ("TurnBackModel", "pay", "I", false)
  | 17 => ("TurnBackModel", "names", "[I", true)
  | 18 => ("TurnBackModel", "letters", "[C", true)
  | 19 => ("TurnBackModel", "begins", "[C", true)
  | 20 => ("TurnBackModel", "words", "[C", true)
  | 21 => ("TurnBackModel", "above", "[I", true)
  | 22 => ("TurnBackModel", "bodies", "[I", true)
  | 23 => ("TurnBackModel", "trace", "[I", true)
  | 24 => ("TurnBackModel", "ran", "I", false)
  | 25 => ("TurnBackModel", "sorts", "[I", true)
  | 26 => ("TurnBackModel", "lengths", "[I", true)
  | 27 => ("TurnBackModel", "items", "[J", true)
  | _ => ("TurnBackModel", "moved", "[J", true)
def tyX8 : Nat → FieldType := fun k => match k with
  | 0 => .array .int
  | 1 => .array .int
  | 2 => .array .int
  | 3 => .boolean
  | 4 => .int
  | 5 => .array .int
  | 6 => .int
  | 7 => .array .int
  | 8 => .array .int
  | 9 => .int
  | 10 => .array .int
  | 11 => .int
  | 12 => .int
  | 13 => .boolean
  | 14 => .int
  | 15 => .int
  | 16 => .int
  | 17 => .array .int
  | 18 => .array .char
  | 19 => .array .char
  | 20 => .array .char
  | 21 => .array .int
  | 22 => .array .int
  | 23 => .array .int
  | 24 => .int
  | 25 => .array .int
  | 26 => .array .int
  | 27 => .array .long
  | _ => .array .long
abbrev wsX80 : List Cond := u_ws RX8 TX8 29
theorem nmX8 : ∀ a, a < 29 → ∀ b, b < 29 → a ≠ b → (TX8 a).2.1 ≠ (TX8 b).2.1 := by decide +kernel
theorem tyX8_ok : ∀ k, k < 29 → parseFieldDescriptor (TX8 k).2.2.1 = some (tyX8 k) := by decide +kernel
def RJ6 : String := "java/lang/Integer"
def RJ0 : String := "java/lang/String"
def RJ1 : String := "java/lang/StringLatin1"
def RJ3 : String := "jdk/internal/util/Preconditions"
def RL : String := "TurnBackLaw"
abbrev cX0_init : ByteArray := prog_2_method_1_code
def yX0_init : MethodName := ⟨RX0, "<init>", "()V"⟩
abbrev cX0_isUnder : ByteArray := prog_2_method_2_code
def yX0_isUnder : MethodName := ⟨RX0, "isUnder", "(II)Z"⟩
abbrev cX0_forget : ByteArray := prog_2_method_3_code
def yX0_forget : MethodName := ⟨RX0, "forget", "()V"⟩
abbrev cX0_kept : ByteArray := prog_2_method_4_code
def yX0_kept : MethodName := ⟨RX0, "kept", "()I"⟩
abbrev cX0_begin : ByteArray := prog_2_method_5_code
def yX0_begin : MethodName := ⟨RX0, "begin", "(IIIII)I"⟩
abbrev cX0_own : ByteArray := prog_2_method_6_code
def yX0_own : MethodName := ⟨RX0, "own", "(III)I"⟩
abbrev cX0_above : ByteArray := prog_2_method_7_code
def yX0_above : MethodName := ⟨RX0, "above", "(IIII)I"⟩
abbrev cX0_runFrom : ByteArray := prog_2_method_8_code
def yX0_runFrom : MethodName := ⟨RX0, "runFrom", "(IIII)I"⟩
abbrev cX0_run : ByteArray := prog_2_method_9_code
def yX0_run : MethodName := ⟨RX0, "run", "(III)I"⟩
abbrev cX1_init : ByteArray := prog_3_method_1_code
def yX1_init : MethodName := ⟨RX1, "<init>", "()V"⟩
abbrev cX1_copy : ByteArray := prog_3_method_2_code
def yX1_copy : MethodName := ⟨RX1, "copy", "(LTurnBack$Notes;)V"⟩
abbrev cX1_lastSeenDay : ByteArray := prog_3_method_3_code
def yX1_lastSeenDay : MethodName := ⟨RX1, "lastSeenDay", "()I"⟩
abbrev cX1_seenElsewhere : ByteArray := prog_3_method_4_code
def yX1_seenElsewhere : MethodName := ⟨RX1, "seenElsewhere", "(LTurnBack$Road;I)Z"⟩
abbrev cX2_init : ByteArray := prog_4_method_1_code
def yX2_init : MethodName := ⟨RX2, "<init>", "()V"⟩
abbrev cX2_copy : ByteArray := prog_4_method_2_code
def yX2_copy : MethodName := ⟨RX2, "copy", "(LTurnBack$Road;)V"⟩
abbrev cX2_welcome : ByteArray := prog_4_method_3_code
def yX2_welcome : MethodName := ⟨RX2, "welcome", "(IIII)I"⟩
abbrev cX2_put : ByteArray := prog_4_method_4_code
def yX2_put : MethodName := ⟨RX2, "put", "(II)V"⟩
abbrev cX2_esteem : ByteArray := prog_4_method_5_code
def yX2_esteem : MethodName := ⟨RX2, "esteem", "(II)V"⟩
abbrev cX2_isAt : ByteArray := prog_4_method_6_code
def yX2_isAt : MethodName := ⟨RX2, "isAt", "(II)Z"⟩
abbrev cX2_isUnderWay : ByteArray := prog_4_method_7_code
def yX2_isUnderWay : MethodName := ⟨RX2, "isUnderWay", "(I)Z"⟩
abbrev cX2_bitsAt : ByteArray := prog_4_method_8_code
def yX2_bitsAt : MethodName := ⟨RX2, "bitsAt", "(I)I"⟩
abbrev cX2_bitsBack : ByteArray := prog_4_method_9_code
def yX2_bitsBack : MethodName := ⟨RX2, "bitsBack", "()I"⟩
abbrev cX2_goOn : ByteArray := prog_4_method_10_code
def yX2_goOn : MethodName := ⟨RX2, "goOn", "(I)V"⟩
abbrev cX2_walkOn : ByteArray := prog_4_method_11_code
def yX2_walkOn : MethodName := ⟨RX2, "walkOn", "(I)V"⟩
abbrev cX2_offerTo : ByteArray := prog_4_method_12_code
def yX2_offerTo : MethodName := ⟨RX2, "offerTo", "(I)I"⟩
abbrev cX2_payNow : ByteArray := prog_4_method_13_code
def yX2_payNow : MethodName := ⟨RX2, "payNow", "()I"⟩
abbrev cX2_anotherAtBar : ByteArray := prog_4_method_14_code
def yX2_anotherAtBar : MethodName := ⟨RX2, "anotherAtBar", "(I)Z"⟩
abbrev cX2_valueOf : ByteArray := prog_4_method_15_code
def yX2_valueOf : MethodName := ⟨RX2, "valueOf", "(II)I"⟩
abbrev cX3_init : ByteArray := prog_5_method_1_code
def yX3_init : MethodName := ⟨RX3, "<init>", "(I)V"⟩
abbrev cX3_empty : ByteArray := prog_5_method_2_code
def yX3_empty : MethodName := ⟨RX3, "empty", "()I"⟩
abbrev cX3_add : ByteArray := prog_5_method_3_code
def yX3_add : MethodName := ⟨RX3, "add", "(III)I"⟩
abbrev cX3_copy : ByteArray := prog_5_method_4_code
def yX3_copy : MethodName := ⟨RX3, "copy", "(LTurnBack$Rows;)V"⟩
abbrev cX4_init : ByteArray := prog_6_method_1_code
def yX4_init : MethodName := ⟨RX4, "<init>", "()V"⟩
abbrev cX4_clear : ByteArray := prog_6_method_2_code
def yX4_clear : MethodName := ⟨RX4, "clear", "()V"⟩
abbrev cX4_add : ByteArray := prog_6_method_3_code
def yX4_add : MethodName := ⟨RX4, "add", "(III)V"⟩
abbrev cX4_extraFor : ByteArray := prog_6_method_4_code
def yX4_extraFor : MethodName := ⟨RX4, "extraFor", "(LTurnBack$Road;I)I"⟩
abbrev cX4_compared : ByteArray := prog_6_method_5_code
def yX4_compared : MethodName := ⟨RX4, "compared", "(III)I"⟩
abbrev cX5_init : ByteArray := prog_7_method_1_code
def yX5_init : MethodName := ⟨RX5, "<init>", "()V"⟩
abbrev cX5_take : ByteArray := prog_7_method_2_code
def yX5_take : MethodName := ⟨RX5, "take", "(I)I"⟩
abbrev cX5_draftSeason : ByteArray := prog_7_method_3_code
def yX5_draftSeason : MethodName := ⟨RX5, "draftSeason", "()I"⟩
abbrev cX5_handOver : ByteArray := prog_7_method_4_code
def yX5_handOver : MethodName := ⟨RX5, "handOver", "()LTurnBack$Season;"⟩
abbrev cX5_clause : ByteArray := prog_7_method_5_code
def yX5_clause : MethodName := ⟨RX5, "clause", "()Z"⟩
abbrev cX5_payClause : ByteArray := prog_7_method_6_code
def yX5_payClause : MethodName := ⟨RX5, "payClause", "()Z"⟩
abbrev cX5_expression : ByteArray := prog_7_method_7_code
def yX5_expression : MethodName := ⟨RX5, "expression", "(I)Z"⟩
abbrev cX5_factor : ByteArray := prog_7_method_8_code
def yX5_factor : MethodName := ⟨RX5, "factor", "(I)Z"⟩
abbrev cX5_test : ByteArray := prog_7_method_9_code
def yX5_test : MethodName := ⟨RX5, "test", "()Z"⟩
abbrev cX5_number : ByteArray := prog_7_method_10_code
def yX5_number : MethodName := ⟨RX5, "number", "()I"⟩
abbrev cX5_word : ByteArray := prog_7_method_11_code
def yX5_word : MethodName := ⟨RX5, "word", "(Ljava/lang/String;)Z"⟩
abbrev cX5_passes : ByteArray := prog_7_method_12_code
def yX5_passes : MethodName := ⟨RX5, "passes", "(C)Z"⟩
abbrev cX5_peek : ByteArray := prog_7_method_13_code
def yX5_peek : MethodName := ⟨RX5, "peek", "()I"⟩
abbrev cX5_isOneOf : ByteArray := prog_7_method_14_code
def yX5_isOneOf : MethodName := ⟨RX5, "isOneOf", "(ILjava/lang/String;)Z"⟩
abbrev cX6_init : ByteArray := prog_8_method_1_code
def yX6_init : MethodName := ⟨RX6, "<init>", "()V"⟩
abbrev cX6_isBlank : ByteArray := prog_8_method_2_code
def yX6_isBlank : MethodName := ⟨RX6, "isBlank", "()Z"⟩
abbrev cX6_become : ByteArray := prog_8_method_3_code
def yX6_become : MethodName := ⟨RX6, "become", "(II)V"⟩
abbrev cX6_cut : ByteArray := prog_8_method_4_code
def yX6_cut : MethodName := ⟨RX6, "cut", "(J)J"⟩
abbrev cX6_reaches : ByteArray := prog_8_method_5_code
def yX6_reaches : MethodName := ⟨RX6, "reaches", "(II)Z"⟩
abbrev cX7_init : ByteArray := prog_1_method_1_code
def yX7_init : MethodName := ⟨RX7, "<init>", "()V"⟩
abbrev cX7_traveller : ByteArray := prog_1_method_2_code
def yX7_traveller : MethodName := ⟨RX7, "traveller", "(IIII)I"⟩
abbrev cX7_of : ByteArray := prog_1_method_3_code
def yX7_of : MethodName := ⟨RX7, "of", "(II)I"⟩
abbrev cX7_set : ByteArray := prog_1_method_4_code
def yX7_set : MethodName := ⟨RX7, "set", "(III)I"⟩
abbrev cX7_back : ByteArray := prog_1_method_5_code
def yX7_back : MethodName := ⟨RX7, "back", "(IZ)I"⟩
abbrev cX7_purse : ByteArray := prog_1_method_6_code
def yX7_purse : MethodName := ⟨RX7, "purse", "(I)I"⟩
abbrev cX7_row : ByteArray := prog_1_method_7_code
def yX7_row : MethodName := ⟨RX7, "row", "(III)I"⟩
abbrev cX7_feed : ByteArray := prog_1_method_8_code
def yX7_feed : MethodName := ⟨RX7, "feed", "(I)I"⟩
abbrev cX7_season : ByteArray := prog_1_method_9_code
def yX7_season : MethodName := ⟨RX7, "season", "()I"⟩
abbrev cX7_told : ByteArray := prog_1_method_10_code
def yX7_told : MethodName := ⟨RX7, "told", "(I)I"⟩
abbrev cX7_pass : ByteArray := prog_1_method_11_code
def yX7_pass : MethodName := ⟨RX7, "pass", "(I)I"⟩
abbrev cX7_on : ByteArray := prog_1_method_12_code
def yX7_on : MethodName := ⟨RX7, "on", "(II)I"⟩
abbrev cX7_daysToCity : ByteArray := prog_1_method_13_code
def yX7_daysToCity : MethodName := ⟨RX7, "daysToCity", "(I)I"⟩
abbrev cX7_pays : ByteArray := prog_1_method_14_code
def yX7_pays : MethodName := ⟨RX7, "pays", "(II)I"⟩
abbrev cX7_cheapestPay : ByteArray := prog_1_method_15_code
def yX7_cheapestPay : MethodName := ⟨RX7, "cheapestPay", "(I)I"⟩
abbrev cX7_inCityBy : ByteArray := prog_1_method_16_code
def yX7_inCityBy : MethodName := ⟨RX7, "inCityBy", "(II)I"⟩
abbrev cX7_richestPay : ByteArray := prog_1_method_17_code
def yX7_richestPay : MethodName := ⟨RX7, "richestPay", "(I)I"⟩
abbrev cX7_smallestBag : ByteArray := prog_1_method_18_code
def yX7_smallestBag : MethodName := ⟨RX7, "smallestBag", "(I)I"⟩
abbrev cX7_keepsAllAway : ByteArray := prog_1_method_19_code
def yX7_keepsAllAway : MethodName := ⟨RX7, "keepsAllAway", "(II)Z"⟩
abbrev cX7_see : ByteArray := prog_1_method_20_code
def yX7_see : MethodName := ⟨RX7, "see", "(III)I"⟩
abbrev cX7_can : ByteArray := prog_1_method_21_code
def yX7_can : MethodName := ⟨RX7, "can", "(III)I"⟩
abbrev cX7_places : ByteArray := prog_1_method_22_code
def yX7_places : MethodName := ⟨RX7, "places", "(I)I"⟩
abbrev cX7_seenComesTrue : ByteArray := prog_1_method_23_code
def yX7_seenComesTrue : MethodName := ⟨RX7, "seenComesTrue", "()Z"⟩
abbrev cX7_odds : ByteArray := prog_1_method_24_code
def yX7_odds : MethodName := ⟨RX7, "odds", "(III)J"⟩
abbrev cX7_mean : ByteArray := prog_1_method_25_code
def yX7_mean : MethodName := ⟨RX7, "mean", "(II)J"⟩
abbrev cX7_partOf : ByteArray := prog_1_method_26_code
def yX7_partOf : MethodName := ⟨RX7, "partOf", "(III)J"⟩
abbrev cX7_plan : ByteArray := prog_1_method_27_code
def yX7_plan : MethodName := ⟨RX7, "plan", "(II)I"⟩
abbrev cX7_ends : ByteArray := prog_1_method_28_code
def yX7_ends : MethodName := ⟨RX7, "ends", "(I)I"⟩
abbrev cX7_followPlan : ByteArray := prog_1_method_29_code
def yX7_followPlan : MethodName := ⟨RX7, "followPlan", "(II)V"⟩
abbrev cX7_book : ByteArray := prog_1_method_30_code
def yX7_book : MethodName := ⟨RX7, "book", "(II)I"⟩
abbrev cX7_looked : ByteArray := prog_1_method_31_code
def yX7_looked : MethodName := ⟨RX7, "looked", "()I"⟩
abbrev cX7_judge : ByteArray := prog_1_method_32_code
def yX7_judge : MethodName := ⟨RX7, "judge", "(II)I"⟩
abbrev cX7_image : ByteArray := prog_1_method_33_code
def yX7_image : MethodName := ⟨RX7, "image", "()I"⟩
abbrev cX7_undo : ByteArray := prog_1_method_34_code
def yX7_undo : MethodName := ⟨RX7, "undo", "()I"⟩
abbrev cX7_act : ByteArray := prog_1_method_35_code
def yX7_act : MethodName := ⟨RX7, "act", "(III)I"⟩
abbrev cX7_trace : ByteArray := prog_1_method_36_code
def yX7_trace : MethodName := ⟨RX7, "trace", "(I)I"⟩
abbrev cX7_taken : ByteArray := prog_1_method_37_code
def yX7_taken : MethodName := ⟨RX7, "taken", "(II)I"⟩
abbrev cX7_count : ByteArray := prog_1_method_38_code
def yX7_count : MethodName := ⟨RX7, "count", "(I)I"⟩
abbrev cX7_tape : ByteArray := prog_1_method_39_code
def yX7_tape : MethodName := ⟨RX7, "tape", "(III)I"⟩
abbrev cX7_item : ByteArray := prog_1_method_40_code
def yX7_item : MethodName := ⟨RX7, "item", "(IIJ)I"⟩
abbrev cX7_read : ByteArray := prog_1_method_41_code
def yX7_read : MethodName := ⟨RX7, "read", "(II)J"⟩
abbrev cX7_shift : ByteArray := prog_1_method_42_code
def yX7_shift : MethodName := ⟨RX7, "shift", "(IIIII)I"⟩
abbrev cX7_isThere : ByteArray := prog_1_method_43_code
def yX7_isThere : MethodName := ⟨RX7, "isThere", "(I)Z"⟩
abbrev cX7_within : ByteArray := prog_1_method_44_code
def yX7_within : MethodName := ⟨RX7, "within", "(II)Z"⟩
abbrev cX8_init : ByteArray := prog_10_method_1_code
def yX8_init : MethodName := ⟨RX8, "<init>", "()V"⟩
abbrev cX8_isIn : ByteArray := prog_10_method_2_code
def yX8_isIn : MethodName := ⟨RX8, "isIn", "(III)Z"⟩
abbrev cX8_fresh : ByteArray := prog_10_method_3_code
def yX8_fresh : MethodName := ⟨RX8, "fresh", "()[I"⟩
abbrev cX8_move : ByteArray := prog_10_method_4_code
def yX8_move : MethodName := ⟨RX8, "move", "([I[I)V"⟩
abbrev cX8_image : ByteArray := prog_10_method_5_code
def yX8_image : MethodName := ⟨RX8, "image", "()I"⟩
abbrev cX8_undo : ByteArray := prog_10_method_6_code
def yX8_undo : MethodName := ⟨RX8, "undo", "()I"⟩
abbrev cX8_isOne : ByteArray := prog_10_method_7_code
def yX8_isOne : MethodName := ⟨RX8, "isOne", "(I)Z"⟩
abbrev cX8_one : ByteArray := prog_10_method_8_code
def yX8_one : MethodName := ⟨RX8, "one", "(II)I"⟩
abbrev cX8_change : ByteArray := prog_10_method_9_code
def yX8_change : MethodName := ⟨RX8, "change", "(III)I"⟩
abbrev cX8_traveller : ByteArray := prog_10_method_10_code
def yX8_traveller : MethodName := ⟨RX8, "traveller", "(IIII)I"⟩
abbrev cX8_of : ByteArray := prog_10_method_11_code
def yX8_of : MethodName := ⟨RX8, "of", "(II)I"⟩
abbrev cX8_set : ByteArray := prog_10_method_12_code
def yX8_set : MethodName := ⟨RX8, "set", "(III)I"⟩
abbrev cX8_isOnTheWay : ByteArray := prog_10_method_13_code
def yX8_isOnTheWay : MethodName := ⟨RX8, "isOnTheWay", "(I)Z"⟩
abbrev cX8_back : ByteArray := prog_10_method_14_code
def yX8_back : MethodName := ⟨RX8, "back", "(IZ)I"⟩
abbrev cX8_purse : ByteArray := prog_10_method_15_code
def yX8_purse : MethodName := ⟨RX8, "purse", "(I)I"⟩
abbrev cX8_row : ByteArray := prog_10_method_16_code
def yX8_row : MethodName := ⟨RX8, "row", "(III)I"⟩
abbrev cX8_feed : ByteArray := prog_10_method_17_code
def yX8_feed : MethodName := ⟨RX8, "feed", "(I)I"⟩
abbrev cX8_isAt : ByteArray := prog_10_method_18_code
def yX8_isAt : MethodName := ⟨RX8, "isAt", "(I)Z"⟩
abbrev cX8_takes : ByteArray := prog_10_method_19_code
def yX8_takes : MethodName := ⟨RX8, "takes", "(I)V"⟩
abbrev cX8_isDigit : ByteArray := prog_10_method_20_code
def yX8_isDigit : MethodName := ⟨RX8, "isDigit", "()Z"⟩
abbrev cX8_number : ByteArray := prog_10_method_21_code
def yX8_number : MethodName := ⟨RX8, "number", "()I"⟩
abbrev cX8_test : ByteArray := prog_10_method_22_code
def yX8_test : MethodName := ⟨RX8, "test", "()Z"⟩
abbrev cX8_factor : ByteArray := prog_10_method_23_code
def yX8_factor : MethodName := ⟨RX8, "factor", "()Z"⟩
abbrev cX8_both : ByteArray := prog_10_method_24_code
def yX8_both : MethodName := ⟨RX8, "both", "()Z"⟩
abbrev cX8_any : ByteArray := prog_10_method_25_code
def yX8_any : MethodName := ⟨RX8, "any", "()Z"⟩
abbrev cX8_clause : ByteArray := prog_10_method_26_code
def yX8_clause : MethodName := ⟨RX8, "clause", "()V"⟩
abbrev cX8_readAll : ByteArray := prog_10_method_27_code
def yX8_readAll : MethodName := ⟨RX8, "readAll", "()Z"⟩
abbrev cX8_readFor : ByteArray := prog_10_method_28_code
def yX8_readFor : MethodName := ⟨RX8, "readFor", "(I)V"⟩
abbrev cX8_season : ByteArray := prog_10_method_29_code
def yX8_season : MethodName := ⟨RX8, "season", "()I"⟩
abbrev cX8_isAnother : ByteArray := prog_10_method_30_code
def yX8_isAnother : MethodName := ⟨RX8, "isAnother", "(I)Z"⟩
abbrev cX8_offer : ByteArray := prog_10_method_31_code
def yX8_offer : MethodName := ⟨RX8, "offer", "(I)I"⟩
abbrev cX8_goes : ByteArray := prog_10_method_32_code
def yX8_goes : MethodName := ⟨RX8, "goes", "(I)V"⟩
abbrev cX8_day : ByteArray := prog_10_method_33_code
def yX8_day : MethodName := ⟨RX8, "day", "()V"⟩
abbrev cX8_days : ByteArray := prog_10_method_34_code
def yX8_days : MethodName := ⟨RX8, "days", "(I)V"⟩
abbrev cX8_standing : ByteArray := prog_10_method_35_code
def yX8_standing : MethodName := ⟨RX8, "standing", "(I)I"⟩
abbrev cX8_backs : ByteArray := prog_10_method_36_code
def yX8_backs : MethodName := ⟨RX8, "backs", "()I"⟩
abbrev cX8_gets : ByteArray := prog_10_method_37_code
def yX8_gets : MethodName := ⟨RX8, "gets", "(I)I"⟩
abbrev cX8_payNow : ByteArray := prog_10_method_38_code
def yX8_payNow : MethodName := ⟨RX8, "payNow", "()I"⟩
abbrev cX8_told : ByteArray := prog_10_method_39_code
def yX8_told : MethodName := ⟨RX8, "told", "(I)I"⟩
abbrev cX8_pass : ByteArray := prog_10_method_40_code
def yX8_pass : MethodName := ⟨RX8, "pass", "(I)I"⟩
abbrev cX8_on : ByteArray := prog_10_method_41_code
def yX8_on : MethodName := ⟨RX8, "on", "(II)I"⟩
abbrev cX8_many : ByteArray := prog_10_method_42_code
def yX8_many : MethodName := ⟨RX8, "many", "(I)I"⟩
abbrev cX8_cheap : ByteArray := prog_10_method_43_code
def yX8_cheap : MethodName := ⟨RX8, "cheap", "(IZ)I"⟩
abbrev cX8_rich : ByteArray := prog_10_method_44_code
def yX8_rich : MethodName := ⟨RX8, "rich", "(I)I"⟩
abbrev cX8_bag : ByteArray := prog_10_method_45_code
def yX8_bag : MethodName := ⟨RX8, "bag", "(I)I"⟩
abbrev cX8_pays : ByteArray := prog_10_method_46_code
def yX8_pays : MethodName := ⟨RX8, "pays", "(II)I"⟩
abbrev cX8_see : ByteArray := prog_10_method_47_code
def yX8_see : MethodName := ⟨RX8, "see", "(III)I"⟩
abbrev cX8_isAllSeen : ByteArray := prog_10_method_48_code
def yX8_isAllSeen : MethodName := ⟨RX8, "isAllSeen", "()Z"⟩
abbrev cX8_fits : ByteArray := prog_10_method_49_code
def yX8_fits : MethodName := ⟨RX8, "fits", "(IIII)I"⟩
abbrev cX8_can : ByteArray := prog_10_method_50_code
def yX8_can : MethodName := ⟨RX8, "can", "(III)I"⟩
abbrev cX8_places : ByteArray := prog_10_method_51_code
def yX8_places : MethodName := ⟨RX8, "places", "(I)I"⟩
abbrev cX8_fraction : ByteArray := prog_10_method_52_code
def yX8_fraction : MethodName := ⟨RX8, "fraction", "(JJI)J"⟩
abbrev cX8_odds : ByteArray := prog_10_method_53_code
def yX8_odds : MethodName := ⟨RX8, "odds", "(III)J"⟩
abbrev cX8_mean : ByteArray := prog_10_method_54_code
def yX8_mean : MethodName := ⟨RX8, "mean", "(II)J"⟩
abbrev cX8_plan : ByteArray := prog_10_method_55_code
def yX8_plan : MethodName := ⟨RX8, "plan", "(II)I"⟩
abbrev cX8_happens : ByteArray := prog_10_method_56_code
def yX8_happens : MethodName := ⟨RX8, "happens", "(II)V"⟩
abbrev cX8_ends : ByteArray := prog_10_method_57_code
def yX8_ends : MethodName := ⟨RX8, "ends", "(I)I"⟩
abbrev cX8_book : ByteArray := prog_10_method_58_code
def yX8_book : MethodName := ⟨RX8, "book", "(II)I"⟩
abbrev cX8_looked : ByteArray := prog_10_method_59_code
def yX8_looked : MethodName := ⟨RX8, "looked", "()I"⟩
abbrev cX8_body : ByteArray := prog_10_method_60_code
def yX8_body : MethodName := ⟨RX8, "body", "(I)I"⟩
abbrev cX8_all : ByteArray := prog_10_method_61_code
def yX8_all : MethodName := ⟨RX8, "all", "(III)I"⟩
abbrev cX8_byKind : ByteArray := prog_10_method_62_code
def yX8_byKind : MethodName := ⟨RX8, "byKind", "(IIII)I"⟩
abbrev cX8_act : ByteArray := prog_10_method_63_code
def yX8_act : MethodName := ⟨RX8, "act", "(III)I"⟩
abbrev cX8_trace : ByteArray := prog_10_method_64_code
def yX8_trace : MethodName := ⟨RX8, "trace", "(I)I"⟩
abbrev cX8_taken : ByteArray := prog_10_method_65_code
def yX8_taken : MethodName := ⟨RX8, "taken", "(II)I"⟩
abbrev cX8_count : ByteArray := prog_10_method_66_code
def yX8_count : MethodName := ⟨RX8, "count", "(I)I"⟩
abbrev cX8_isTape : ByteArray := prog_10_method_67_code
def yX8_isTape : MethodName := ⟨RX8, "isTape", "(I)Z"⟩
abbrev cX8_tape : ByteArray := prog_10_method_68_code
def yX8_tape : MethodName := ⟨RX8, "tape", "(III)I"⟩
abbrev cX8_item : ByteArray := prog_10_method_69_code
def yX8_item : MethodName := ⟨RX8, "item", "(IIJ)I"⟩
abbrev cX8_read : ByteArray := prog_10_method_70_code
def yX8_read : MethodName := ⟨RX8, "read", "(II)J"⟩
abbrev cX8_shift : ByteArray := prog_10_method_71_code
def yX8_shift : MethodName := ⟨RX8, "shift", "(IIIII)I"⟩
abbrev cX8_judge : ByteArray := prog_10_method_72_code
def yX8_judge : MethodName := ⟨RX8, "judge", "(II)I"⟩
abbrev cJ6_bitCount_0f7a4 : ByteArray := prog_11_method_49_code
def yJ6_bitCount_0f7a4 : MethodName := ⟨RJ6, "bitCount", "(I)I"⟩
abbrev cJ0_length_8abf5 : ByteArray := prog_13_method_54_code
def yJ0_length_8abf5 : MethodName := ⟨RJ0, "length", "()I"⟩
abbrev cJ0_charAt_5068e : ByteArray := prog_13_method_56_code
def yJ0_charAt_5068e : MethodName := ⟨RJ0, "charAt", "(I)C"⟩
abbrev cJ0_coder_7d493 : ByteArray := prog_13_method_152_code
def yJ0_coder_7d493 : MethodName := ⟨RJ0, "coder", "()B"⟩
abbrev cJ0_isLatin1_aae02 : ByteArray := prog_13_method_154_code
def yJ0_isLatin1_aae02 : MethodName := ⟨RJ0, "isLatin1", "()Z"⟩
abbrev cJ0_checkIndex_df160 : ByteArray := prog_13_method_155_code
def yJ0_checkIndex_df160 : MethodName := ⟨RJ0, "checkIndex", "(II)V"⟩
abbrev cJ1_charAt_3b067 : ByteArray := prog_14_method_2_code
def yJ1_charAt_3b067 : MethodName := ⟨RJ1, "charAt", "([BI)C"⟩
abbrev cJ3_checkIndex_8e157 : ByteArray := prog_17_method_11_code
def yJ3_checkIndex_8e157 : MethodName := ⟨RJ3, "checkIndex", "(IILjava/util/function/BiFunction;)I"⟩
abbrev cL_law : ByteArray := code
def yL_law : MethodName := ⟨RL, "law", "([I)Z"⟩
abbrev vwCl : List vw_C := [(RX0, TX0, 5), (RX1, TX1, 3), (RX2, TX2, 12), (RX3, TX3, 4), (RX4, TX4, 3), (RX5, TX5, 4), (RX6, TX6, 3), (RX7, TX7, 10), (RX8, TX8, 29)]
