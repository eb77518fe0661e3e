section
-- ===== PART A: goes FIRST, ahead of the names: the tables' words, and 'selects' of the private methods out of them =====
/-- a private method of a class that the tables say can be made, by its rows of tables_1 -/
def lw_okq (q : MethodName × Nat) : Prop := (q.1.cls ≠ "java/lang/invoke/MethodHandle" ∧ q.1.cls ≠ "java/lang/invoke/VarHandle") ∧ Cond.instantiable q.1.cls q.2 ∈ tables_1 ∧ Cond.privateMethod q.1 ∈ tables_1 ∧ Cond.instanceMethod q.1 ∈ tables_1
theorem lw_p0 : lw_okq (⟨"SheafVotes", "finding", "(I)I"⟩, 8) := ⟨⟨by decide +kernel, by decide +kernel⟩, List.mem_of_getElem? (i := 16) (by decide +kernel), List.mem_of_getElem? (i := 187) (by decide +kernel), List.mem_of_getElem? (i := 188) (by decide +kernel)⟩
theorem lw_p1 : lw_okq (⟨"SheafVotes", "trialBehind", "(I)LSheafVotes$Parish;"⟩, 8) := ⟨⟨by decide +kernel, by decide +kernel⟩, List.mem_of_getElem? (i := 16) (by decide +kernel), List.mem_of_getElem? (i := 376) (by decide +kernel), List.mem_of_getElem? (i := 377) (by decide +kernel)⟩
theorem lw_p2 : lw_okq (⟨"SheafVotes", "isLatestIfLent", "(III)Z"⟩, 8) := ⟨⟨by decide +kernel, by decide +kernel⟩, List.mem_of_getElem? (i := 16) (by decide +kernel), List.mem_of_getElem? (i := 436) (by decide +kernel), List.mem_of_getElem? (i := 437) (by decide +kernel)⟩
theorem lw_p3 : lw_okq (⟨"SheafVotes", "tryOpinion", "(II)V"⟩, 8) := ⟨⟨by decide +kernel, by decide +kernel⟩, List.mem_of_getElem? (i := 16) (by decide +kernel), List.mem_of_getElem? (i := 452) (by decide +kernel), List.mem_of_getElem? (i := 453) (by decide +kernel)⟩
theorem lw_p4 : lw_okq (⟨"SheafVotes", "refusalOfFit", "(II)I"⟩, 8) := ⟨⟨by decide +kernel, by decide +kernel⟩, List.mem_of_getElem? (i := 16) (by decide +kernel), List.mem_of_getElem? (i := 485) (by decide +kernel), List.mem_of_getElem? (i := 486) (by decide +kernel)⟩
theorem lw_p5 : lw_okq (⟨"SheafVotes", "refusalOfSheet", "(I)I"⟩, 8) := ⟨⟨by decide +kernel, by decide +kernel⟩, List.mem_of_getElem? (i := 16) (by decide +kernel), List.mem_of_getElem? (i := 489) (by decide +kernel), List.mem_of_getElem? (i := 490) (by decide +kernel)⟩
theorem lw_p6 : lw_okq (⟨"SheafVotes", "opinionFits", "(LSheafVotes$Sheet;II)Z"⟩, 8) := ⟨⟨by decide +kernel, by decide +kernel⟩, List.mem_of_getElem? (i := 16) (by decide +kernel), List.mem_of_getElem? (i := 497) (by decide +kernel), List.mem_of_getElem? (i := 498) (by decide +kernel)⟩
theorem lw_p7 : lw_okq (⟨"SheafVotes$TextReader", "readsItem", "()Z"⟩, 2) := ⟨⟨by decide +kernel, by decide +kernel⟩, List.mem_of_getElem? (i := 122) (by decide +kernel), List.mem_of_getElem? (i := 562) (by decide +kernel), List.mem_of_getElem? (i := 563) (by decide +kernel)⟩
theorem lw_p8 : lw_okq (⟨"SheafVotes$TextReader", "readsFarm", "(I)Z"⟩, 2) := ⟨⟨by decide +kernel, by decide +kernel⟩, List.mem_of_getElem? (i := 122) (by decide +kernel), List.mem_of_getElem? (i := 629) (by decide +kernel), List.mem_of_getElem? (i := 630) (by decide +kernel)⟩
theorem lw_p9 : lw_okq (⟨"SheafVotes$TextReader", "readsHands", "(LSheafVotes$Farm;)Z"⟩, 2) := ⟨⟨by decide +kernel, by decide +kernel⟩, List.mem_of_getElem? (i := 122) (by decide +kernel), List.mem_of_getElem? (i := 642) (by decide +kernel), List.mem_of_getElem? (i := 643) (by decide +kernel)⟩
theorem lw_p10 : lw_okq (⟨"SheafVotes$TextReader", "readsOpinion", "(LSheafVotes$Farm;)Z"⟩, 2) := ⟨⟨by decide +kernel, by decide +kernel⟩, List.mem_of_getElem? (i := 122) (by decide +kernel), List.mem_of_getElem? (i := 648) (by decide +kernel), List.mem_of_getElem? (i := 649) (by decide +kernel)⟩
theorem lw_p11 : lw_okq (⟨"SheafVotes$TextReader", "readsWeather", "(I)Z"⟩, 2) := ⟨⟨by decide +kernel, by decide +kernel⟩, List.mem_of_getElem? (i := 122) (by decide +kernel), List.mem_of_getElem? (i := 659) (by decide +kernel), List.mem_of_getElem? (i := 660) (by decide +kernel)⟩
theorem lw_p12 : lw_okq (⟨"SheafVotesModel", "becomes", "(II)I"⟩, 20) := ⟨⟨by decide +kernel, by decide +kernel⟩, List.mem_of_getElem? (i := 738) (by decide +kernel), List.mem_of_getElem? (i := 814) (by decide +kernel), List.mem_of_getElem? (i := 815) (by decide +kernel)⟩
theorem lw_p13 : lw_okq (⟨"SheafVotesModel", "finds", "(I)I"⟩, 20) := ⟨⟨by decide +kernel, by decide +kernel⟩, List.mem_of_getElem? (i := 738) (by decide +kernel), List.mem_of_getElem? (i := 819) (by decide +kernel), List.mem_of_getElem? (i := 820) (by decide +kernel)⟩
theorem lw_p14 : lw_okq (⟨"SheafVotesModel", "comes", "(II)V"⟩, 20) := ⟨⟨by decide +kernel, by decide +kernel⟩, List.mem_of_getElem? (i := 738) (by decide +kernel), List.mem_of_getElem? (i := 830) (by decide +kernel), List.mem_of_getElem? (i := 831) (by decide +kernel)⟩
theorem lw_p15 : lw_okq (⟨"SheafVotesModel", "isFarm", "(I)Z"⟩, 20) := ⟨⟨by decide +kernel, by decide +kernel⟩, List.mem_of_getElem? (i := 738) (by decide +kernel), List.mem_of_getElem? (i := 838) (by decide +kernel), List.mem_of_getElem? (i := 839) (by decide +kernel)⟩
def lw_privs_1 : List (MethodName × Nat) := [(⟨"SheafVotes", "finding", "(I)I"⟩, 8), (⟨"SheafVotes", "trialBehind", "(I)LSheafVotes$Parish;"⟩, 8), (⟨"SheafVotes", "isLatestIfLent", "(III)Z"⟩, 8), (⟨"SheafVotes", "tryOpinion", "(II)V"⟩, 8), (⟨"SheafVotes", "refusalOfFit", "(II)I"⟩, 8), (⟨"SheafVotes", "refusalOfSheet", "(I)I"⟩, 8), (⟨"SheafVotes", "opinionFits", "(LSheafVotes$Sheet;II)Z"⟩, 8), (⟨"SheafVotes$TextReader", "readsItem", "()Z"⟩, 2), (⟨"SheafVotes$TextReader", "readsFarm", "(I)Z"⟩, 2), (⟨"SheafVotes$TextReader", "readsHands", "(LSheafVotes$Farm;)Z"⟩, 2), (⟨"SheafVotes$TextReader", "readsOpinion", "(LSheafVotes$Farm;)Z"⟩, 2), (⟨"SheafVotes$TextReader", "readsWeather", "(I)Z"⟩, 2), (⟨"SheafVotesModel", "becomes", "(II)I"⟩, 20), (⟨"SheafVotesModel", "finds", "(I)I"⟩, 20), (⟨"SheafVotesModel", "comes", "(II)V"⟩, 20), (⟨"SheafVotesModel", "isFarm", "(I)Z"⟩, 20)]
theorem lw_r1 : ∀ q ∈ lw_privs_1, lw_okq q := List.forall_mem_cons.mpr ⟨lw_p0, List.forall_mem_cons.mpr ⟨lw_p1, List.forall_mem_cons.mpr ⟨lw_p2, List.forall_mem_cons.mpr ⟨lw_p3, List.forall_mem_cons.mpr ⟨lw_p4, List.forall_mem_cons.mpr ⟨lw_p5, List.forall_mem_cons.mpr ⟨lw_p6, List.forall_mem_cons.mpr ⟨lw_p7, List.forall_mem_cons.mpr ⟨lw_p8, List.forall_mem_cons.mpr ⟨lw_p9, List.forall_mem_cons.mpr ⟨lw_p10, List.forall_mem_cons.mpr ⟨lw_p11, List.forall_mem_cons.mpr ⟨lw_p12, List.forall_mem_cons.mpr ⟨lw_p13, List.forall_mem_cons.mpr ⟨lw_p14, List.forall_mem_cons.mpr ⟨lw_p15, fun _ h => absurd h List.not_mem_nil⟩⟩⟩⟩⟩⟩⟩⟩⟩⟩⟩⟩⟩⟩⟩⟩
theorem lw_p16 : lw_okq (⟨"SheafVotesModel", "its", "(II)I"⟩, 20) := ⟨⟨by decide +kernel, by decide +kernel⟩, List.mem_of_getElem? (i := 738) (by decide +kernel), List.mem_of_getElem? (i := 843) (by decide +kernel), List.mem_of_getElem? (i := 844) (by decide +kernel)⟩
theorem lw_p17 : lw_okq (⟨"SheafVotesModel", "reaps", "(II)I"⟩, 20) := ⟨⟨by decide +kernel, by decide +kernel⟩, List.mem_of_getElem? (i := 738) (by decide +kernel), List.mem_of_getElem? (i := 847) (by decide +kernel), List.mem_of_getElem? (i := 848) (by decide +kernel)⟩
theorem lw_p18 : lw_okq (⟨"SheafVotesModel", "days", "(I)I"⟩, 20) := ⟨⟨by decide +kernel, by decide +kernel⟩, List.mem_of_getElem? (i := 738) (by decide +kernel), List.mem_of_getElem? (i := 854) (by decide +kernel), List.mem_of_getElem? (i := 855) (by decide +kernel)⟩
theorem lw_p19 : lw_okq (⟨"SheafVotesModel", "tells", "(I)I"⟩, 20) := ⟨⟨by decide +kernel, by decide +kernel⟩, List.mem_of_getElem? (i := 738) (by decide +kernel), List.mem_of_getElem? (i := 858) (by decide +kernel), List.mem_of_getElem? (i := 859) (by decide +kernel)⟩
theorem lw_p20 : lw_okq (⟨"SheafVotesModel", "leftBehind", "(II)I"⟩, 20) := ⟨⟨by decide +kernel, by decide +kernel⟩, List.mem_of_getElem? (i := 738) (by decide +kernel), List.mem_of_getElem? (i := 880) (by decide +kernel), List.mem_of_getElem? (i := 881) (by decide +kernel)⟩
theorem lw_p21 : lw_okq (⟨"SheafVotesModel", "lasts", "()I"⟩, 20) := ⟨⟨by decide +kernel, by decide +kernel⟩, List.mem_of_getElem? (i := 738) (by decide +kernel), List.mem_of_getElem? (i := 888) (by decide +kernel), List.mem_of_getElem? (i := 889) (by decide +kernel)⟩
theorem lw_p22 : lw_okq (⟨"SheafVotesModel", "countsDays", "()V"⟩, 20) := ⟨⟨by decide +kernel, by decide +kernel⟩, List.mem_of_getElem? (i := 738) (by decide +kernel), List.mem_of_getElem? (i := 892) (by decide +kernel), List.mem_of_getElem? (i := 893) (by decide +kernel)⟩
theorem lw_p23 : lw_okq (⟨"SheafVotesModel", "mostDays", "()I"⟩, 20) := ⟨⟨by decide +kernel, by decide +kernel⟩, List.mem_of_getElem? (i := 738) (by decide +kernel), List.mem_of_getElem? (i := 896) (by decide +kernel), List.mem_of_getElem? (i := 897) (by decide +kernel)⟩
theorem lw_p24 : lw_okq (⟨"SheafVotesModel", "withDays", "(I)I"⟩, 20) := ⟨⟨by decide +kernel, by decide +kernel⟩, List.mem_of_getElem? (i := 738) (by decide +kernel), List.mem_of_getElem? (i := 900) (by decide +kernel), List.mem_of_getElem? (i := 901) (by decide +kernel)⟩
theorem lw_p25 : lw_okq (⟨"SheafVotesModel", "firsts", "()I"⟩, 20) := ⟨⟨by decide +kernel, by decide +kernel⟩, List.mem_of_getElem? (i := 738) (by decide +kernel), List.mem_of_getElem? (i := 908) (by decide +kernel), List.mem_of_getElem? (i := 909) (by decide +kernel)⟩
theorem lw_p26 : lw_okq (⟨"SheafVotesModel", "leanNow", "()I"⟩, 20) := ⟨⟨by decide +kernel, by decide +kernel⟩, List.mem_of_getElem? (i := 738) (by decide +kernel), List.mem_of_getElem? (i := 920) (by decide +kernel), List.mem_of_getElem? (i := 921) (by decide +kernel)⟩
theorem lw_p27 : lw_okq (⟨"SheafVotesModel", "leanBy", "(I)I"⟩, 20) := ⟨⟨by decide +kernel, by decide +kernel⟩, List.mem_of_getElem? (i := 738) (by decide +kernel), List.mem_of_getElem? (i := 924) (by decide +kernel), List.mem_of_getElem? (i := 925) (by decide +kernel)⟩
theorem lw_p28 : lw_okq (⟨"SheafVotesModel", "answerTo", "(I)I"⟩, 20) := ⟨⟨by decide +kernel, by decide +kernel⟩, List.mem_of_getElem? (i := 738) (by decide +kernel), List.mem_of_getElem? (i := 939) (by decide +kernel), List.mem_of_getElem? (i := 940) (by decide +kernel)⟩
theorem lw_p29 : lw_okq (⟨"SheafVotesModel", "years", "(I)V"⟩, 20) := ⟨⟨by decide +kernel, by decide +kernel⟩, List.mem_of_getElem? (i := 738) (by decide +kernel), List.mem_of_getElem? (i := 950) (by decide +kernel), List.mem_of_getElem? (i := 951) (by decide +kernel)⟩
theorem lw_p30 : lw_okq (⟨"SheafVotesModel", "year", "()V"⟩, 20) := ⟨⟨by decide +kernel, by decide +kernel⟩, List.mem_of_getElem? (i := 738) (by decide +kernel), List.mem_of_getElem? (i := 954) (by decide +kernel), List.mem_of_getElem? (i := 955) (by decide +kernel)⟩
theorem lw_p31 : lw_okq (⟨"SheafVotesModel", "sumOf", "(I)I"⟩, 20) := ⟨⟨by decide +kernel, by decide +kernel⟩, List.mem_of_getElem? (i := 738) (by decide +kernel), List.mem_of_getElem? (i := 962) (by decide +kernel), List.mem_of_getElem? (i := 963) (by decide +kernel)⟩
def lw_privs_2 : List (MethodName × Nat) := [(⟨"SheafVotesModel", "its", "(II)I"⟩, 20), (⟨"SheafVotesModel", "reaps", "(II)I"⟩, 20), (⟨"SheafVotesModel", "days", "(I)I"⟩, 20), (⟨"SheafVotesModel", "tells", "(I)I"⟩, 20), (⟨"SheafVotesModel", "leftBehind", "(II)I"⟩, 20), (⟨"SheafVotesModel", "lasts", "()I"⟩, 20), (⟨"SheafVotesModel", "countsDays", "()V"⟩, 20), (⟨"SheafVotesModel", "mostDays", "()I"⟩, 20), (⟨"SheafVotesModel", "withDays", "(I)I"⟩, 20), (⟨"SheafVotesModel", "firsts", "()I"⟩, 20), (⟨"SheafVotesModel", "leanNow", "()I"⟩, 20), (⟨"SheafVotesModel", "leanBy", "(I)I"⟩, 20), (⟨"SheafVotesModel", "answerTo", "(I)I"⟩, 20), (⟨"SheafVotesModel", "years", "(I)V"⟩, 20), (⟨"SheafVotesModel", "year", "()V"⟩, 20), (⟨"SheafVotesModel", "sumOf", "(I)I"⟩, 20)]
theorem lw_r2 : ∀ q ∈ lw_privs_2, lw_okq q := List.forall_mem_cons.mpr ⟨lw_p16, List.forall_mem_cons.mpr ⟨lw_p17, List.forall_mem_cons.mpr ⟨lw_p18, List.forall_mem_cons.mpr ⟨lw_p19, List.forall_mem_cons.mpr ⟨lw_p20, List.forall_mem_cons.mpr ⟨lw_p21, List.forall_mem_cons.mpr ⟨lw_p22, List.forall_mem_cons.mpr ⟨lw_p23, List.forall_mem_cons.mpr ⟨lw_p24, List.forall_mem_cons.mpr ⟨lw_p25, List.forall_mem_cons.mpr ⟨lw_p26, List.forall_mem_cons.mpr ⟨lw_p27, List.forall_mem_cons.mpr ⟨lw_p28, List.forall_mem_cons.mpr ⟨lw_p29, List.forall_mem_cons.mpr ⟨lw_p30, List.forall_mem_cons.mpr ⟨lw_p31, fun _ h => absurd h List.not_mem_nil⟩⟩⟩⟩⟩⟩⟩⟩⟩⟩⟩⟩⟩⟩⟩⟩
theorem lw_p32 : lw_okq (⟨"SheafVotesModel", "hadEver", "()I"⟩, 20) := ⟨⟨by decide +kernel, by decide +kernel⟩, List.mem_of_getElem? (i := 738) (by decide +kernel), List.mem_of_getElem? (i := 966) (by decide +kernel), List.mem_of_getElem? (i := 967) (by decide +kernel)⟩
theorem lw_p33 : lw_okq (⟨"SheafVotesModel", "isLast", "(I)Z"⟩, 20) := ⟨⟨by decide +kernel, by decide +kernel⟩, List.mem_of_getElem? (i := 738) (by decide +kernel), List.mem_of_getElem? (i := 1009) (by decide +kernel), List.mem_of_getElem? (i := 1010) (by decide +kernel)⟩
theorem lw_p34 : lw_okq (⟨"SheafVotesModel", "orNone", "(I)I"⟩, 20) := ⟨⟨by decide +kernel, by decide +kernel⟩, List.mem_of_getElem? (i := 738) (by decide +kernel), List.mem_of_getElem? (i := 1017) (by decide +kernel), List.mem_of_getElem? (i := 1018) (by decide +kernel)⟩
theorem lw_p35 : lw_okq (⟨"SheafVotesModel", "findsCuts", "(II)V"⟩, 20) := ⟨⟨by decide +kernel, by decide +kernel⟩, List.mem_of_getElem? (i := 738) (by decide +kernel), List.mem_of_getElem? (i := 1053) (by decide +kernel), List.mem_of_getElem? (i := 1054) (by decide +kernel)⟩
theorem lw_p36 : lw_okq (⟨"SheafVotesModel", "wantsFor", "(II)I"⟩, 20) := ⟨⟨by decide +kernel, by decide +kernel⟩, List.mem_of_getElem? (i := 738) (by decide +kernel), List.mem_of_getElem? (i := 1065) (by decide +kernel), List.mem_of_getElem? (i := 1066) (by decide +kernel)⟩
theorem lw_p37 : lw_okq (⟨"SheafVotesModel", "wants", "(I)I"⟩, 20) := ⟨⟨by decide +kernel, by decide +kernel⟩, List.mem_of_getElem? (i := 738) (by decide +kernel), List.mem_of_getElem? (i := 1069) (by decide +kernel), List.mem_of_getElem? (i := 1070) (by decide +kernel)⟩
theorem lw_p38 : lw_okq (⟨"SheafVotesModel", "findsFits", "(II)V"⟩, 20) := ⟨⟨by decide +kernel, by decide +kernel⟩, List.mem_of_getElem? (i := 738) (by decide +kernel), List.mem_of_getElem? (i := 1077) (by decide +kernel), List.mem_of_getElem? (i := 1078) (by decide +kernel)⟩
theorem lw_p39 : lw_okq (⟨"SheafVotesModel", "isTold", "(I)Z"⟩, 20) := ⟨⟨by decide +kernel, by decide +kernel⟩, List.mem_of_getElem? (i := 738) (by decide +kernel), List.mem_of_getElem? (i := 1081) (by decide +kernel), List.mem_of_getElem? (i := 1082) (by decide +kernel)⟩
theorem lw_p40 : lw_okq (⟨"SheafVotesModel", "draw", "()I"⟩, 20) := ⟨⟨by decide +kernel, by decide +kernel⟩, List.mem_of_getElem? (i := 738) (by decide +kernel), List.mem_of_getElem? (i := 1093) (by decide +kernel), List.mem_of_getElem? (i := 1094) (by decide +kernel)⟩
theorem lw_p41 : lw_okq (⟨"SheafVotesModel", "nextToken", "()V"⟩, 20) := ⟨⟨by decide +kernel, by decide +kernel⟩, List.mem_of_getElem? (i := 738) (by decide +kernel), List.mem_of_getElem? (i := 1121) (by decide +kernel), List.mem_of_getElem? (i := 1122) (by decide +kernel)⟩
theorem lw_p42 : lw_okq (⟨"SheafVotesModel", "byteAt", "(I)I"⟩, 20) := ⟨⟨by decide +kernel, by decide +kernel⟩, List.mem_of_getElem? (i := 738) (by decide +kernel), List.mem_of_getElem? (i := 1125) (by decide +kernel), List.mem_of_getElem? (i := 1126) (by decide +kernel)⟩
theorem lw_p43 : lw_okq (⟨"SheafVotesModel", "itemHere", "()Z"⟩, 20) := ⟨⟨by decide +kernel, by decide +kernel⟩, List.mem_of_getElem? (i := 738) (by decide +kernel), List.mem_of_getElem? (i := 1135) (by decide +kernel), List.mem_of_getElem? (i := 1136) (by decide +kernel)⟩
theorem lw_p44 : lw_okq (⟨"SheafVotesModel", "kindHere", "()I"⟩, 20) := ⟨⟨by decide +kernel, by decide +kernel⟩, List.mem_of_getElem? (i := 738) (by decide +kernel), List.mem_of_getElem? (i := 1139) (by decide +kernel), List.mem_of_getElem? (i := 1140) (by decide +kernel)⟩
theorem lw_p45 : lw_okq (⟨"SheafVotesModel", "isFour", "(IIII)Z"⟩, 20) := ⟨⟨by decide +kernel, by decide +kernel⟩, List.mem_of_getElem? (i := 738) (by decide +kernel), List.mem_of_getElem? (i := 1143) (by decide +kernel), List.mem_of_getElem? (i := 1144) (by decide +kernel)⟩
theorem lw_p46 : lw_okq (⟨"SheafVotesModel", "isWord", "(I)Z"⟩, 20) := ⟨⟨by decide +kernel, by decide +kernel⟩, List.mem_of_getElem? (i := 738) (by decide +kernel), List.mem_of_getElem? (i := 1147) (by decide +kernel), List.mem_of_getElem? (i := 1148) (by decide +kernel)⟩
theorem lw_p47 : lw_okq (⟨"SheafVotesModel", "has3", "(IIII)Z"⟩, 20) := ⟨⟨by decide +kernel, by decide +kernel⟩, List.mem_of_getElem? (i := 738) (by decide +kernel), List.mem_of_getElem? (i := 1151) (by decide +kernel), List.mem_of_getElem? (i := 1152) (by decide +kernel)⟩
def lw_privs_3 : List (MethodName × Nat) := [(⟨"SheafVotesModel", "hadEver", "()I"⟩, 20), (⟨"SheafVotesModel", "isLast", "(I)Z"⟩, 20), (⟨"SheafVotesModel", "orNone", "(I)I"⟩, 20), (⟨"SheafVotesModel", "findsCuts", "(II)V"⟩, 20), (⟨"SheafVotesModel", "wantsFor", "(II)I"⟩, 20), (⟨"SheafVotesModel", "wants", "(I)I"⟩, 20), (⟨"SheafVotesModel", "findsFits", "(II)V"⟩, 20), (⟨"SheafVotesModel", "isTold", "(I)Z"⟩, 20), (⟨"SheafVotesModel", "draw", "()I"⟩, 20), (⟨"SheafVotesModel", "nextToken", "()V"⟩, 20), (⟨"SheafVotesModel", "byteAt", "(I)I"⟩, 20), (⟨"SheafVotesModel", "itemHere", "()Z"⟩, 20), (⟨"SheafVotesModel", "kindHere", "()I"⟩, 20), (⟨"SheafVotesModel", "isFour", "(IIII)Z"⟩, 20), (⟨"SheafVotesModel", "isWord", "(I)Z"⟩, 20), (⟨"SheafVotesModel", "has3", "(IIII)Z"⟩, 20)]
theorem lw_r3 : ∀ q ∈ lw_privs_3, lw_okq q := List.forall_mem_cons.mpr ⟨lw_p32, List.forall_mem_cons.mpr ⟨lw_p33, List.forall_mem_cons.mpr ⟨lw_p34, List.forall_mem_cons.mpr ⟨lw_p35, List.forall_mem_cons.mpr ⟨lw_p36, List.forall_mem_cons.mpr ⟨lw_p37, List.forall_mem_cons.mpr ⟨lw_p38, List.forall_mem_cons.mpr ⟨lw_p39, List.forall_mem_cons.mpr ⟨lw_p40, List.forall_mem_cons.mpr ⟨lw_p41, List.forall_mem_cons.mpr ⟨lw_p42, List.forall_mem_cons.mpr ⟨lw_p43, List.forall_mem_cons.mpr ⟨lw_p44, List.forall_mem_cons.mpr ⟨lw_p45, List.forall_mem_cons.mpr ⟨lw_p46, List.forall_mem_cons.mpr ⟨lw_p47, fun _ h => absurd h List.not_mem_nil⟩⟩⟩⟩⟩⟩⟩⟩⟩⟩⟩⟩⟩⟩⟩⟩
theorem lw_p48 : lw_okq (⟨"SheafVotesModel", "isFive", "(IIIII)Z"⟩, 20) := ⟨⟨by decide +kernel, by decide +kernel⟩, List.mem_of_getElem? (i := 738) (by decide +kernel), List.mem_of_getElem? (i := 1155) (by decide +kernel), List.mem_of_getElem? (i := 1156) (by decide +kernel)⟩
theorem lw_p49 : lw_okq (⟨"SheafVotesModel", "farmHere", "(I)Z"⟩, 20) := ⟨⟨by decide +kernel, by decide +kernel⟩, List.mem_of_getElem? (i := 738) (by decide +kernel), List.mem_of_getElem? (i := 1159) (by decide +kernel), List.mem_of_getElem? (i := 1160) (by decide +kernel)⟩
theorem lw_p50 : lw_okq (⟨"SheafVotesModel", "fails", "()Z"⟩, 20) := ⟨⟨by decide +kernel, by decide +kernel⟩, List.mem_of_getElem? (i := 738) (by decide +kernel), List.mem_of_getElem? (i := 1163) (by decide +kernel), List.mem_of_getElem? (i := 1164) (by decide +kernel)⟩
theorem lw_p51 : lw_okq (⟨"SheafVotesModel", "isNumber", "(II)Z"⟩, 20) := ⟨⟨by decide +kernel, by decide +kernel⟩, List.mem_of_getElem? (i := 738) (by decide +kernel), List.mem_of_getElem? (i := 1167) (by decide +kernel), List.mem_of_getElem? (i := 1168) (by decide +kernel)⟩
theorem lw_p52 : lw_okq (⟨"SheafVotesModel", "handsHere", "()Z"⟩, 20) := ⟨⟨by decide +kernel, by decide +kernel⟩, List.mem_of_getElem? (i := 738) (by decide +kernel), List.mem_of_getElem? (i := 1171) (by decide +kernel), List.mem_of_getElem? (i := 1172) (by decide +kernel)⟩
theorem lw_p53 : lw_okq (⟨"SheafVotesModel", "thinksHere", "()Z"⟩, 20) := ⟨⟨by decide +kernel, by decide +kernel⟩, List.mem_of_getElem? (i := 738) (by decide +kernel), List.mem_of_getElem? (i := 1175) (by decide +kernel), List.mem_of_getElem? (i := 1176) (by decide +kernel)⟩
theorem lw_p54 : lw_okq (⟨"SheafVotesModel", "isSix", "(IIIIII)Z"⟩, 20) := ⟨⟨by decide +kernel, by decide +kernel⟩, List.mem_of_getElem? (i := 738) (by decide +kernel), List.mem_of_getElem? (i := 1179) (by decide +kernel), List.mem_of_getElem? (i := 1180) (by decide +kernel)⟩
theorem lw_p55 : lw_okq (⟨"SheafVotesModel", "weatherHere", "(I)Z"⟩, 20) := ⟨⟨by decide +kernel, by decide +kernel⟩, List.mem_of_getElem? (i := 738) (by decide +kernel), List.mem_of_getElem? (i := 1183) (by decide +kernel), List.mem_of_getElem? (i := 1184) (by decide +kernel)⟩
def lw_privs_4 : List (MethodName × Nat) := [(⟨"SheafVotesModel", "isFive", "(IIIII)Z"⟩, 20), (⟨"SheafVotesModel", "farmHere", "(I)Z"⟩, 20), (⟨"SheafVotesModel", "fails", "()Z"⟩, 20), (⟨"SheafVotesModel", "isNumber", "(II)Z"⟩, 20), (⟨"SheafVotesModel", "handsHere", "()Z"⟩, 20), (⟨"SheafVotesModel", "thinksHere", "()Z"⟩, 20), (⟨"SheafVotesModel", "isSix", "(IIIIII)Z"⟩, 20), (⟨"SheafVotesModel", "weatherHere", "(I)Z"⟩, 20)]
theorem lw_r4 : ∀ q ∈ lw_privs_4, lw_okq q := List.forall_mem_cons.mpr ⟨lw_p48, List.forall_mem_cons.mpr ⟨lw_p49, List.forall_mem_cons.mpr ⟨lw_p50, List.forall_mem_cons.mpr ⟨lw_p51, List.forall_mem_cons.mpr ⟨lw_p52, List.forall_mem_cons.mpr ⟨lw_p53, List.forall_mem_cons.mpr ⟨lw_p54, List.forall_mem_cons.mpr ⟨lw_p55, fun _ h => absurd h List.not_mem_nil⟩⟩⟩⟩⟩⟩⟩⟩
def lw_privs : List (MethodName × Nat) := lw_privs_1 ++ (lw_privs_2 ++ (lw_privs_3 ++ (lw_privs_4)))
def lw_tbl : List Cond := k2_sels lw_privs ++ tables_1
theorem lw_privs_ok : ∀ q ∈ lw_privs, lw_okq q := by
  show ∀ q ∈ lw_privs_1 ++ (lw_privs_2 ++ (lw_privs_3 ++ (lw_privs_4))), lw_okq q
  exact List.forall_mem_append.mpr ⟨lw_r1, List.forall_mem_append.mpr ⟨lw_r2, List.forall_mem_append.mpr ⟨lw_r3, lw_r4⟩⟩⟩
end
section
/-! names of classes, fields, methods (printed by the kit, taken over) -/
def RX0 : String := "SheafVotes$Farm"
def TX0 : u_T := fun k => match k with
  | 0 => ("SheafVotes$Farm", "kind", "I", false)
  | 1 => ("SheafVotes$Farm", "field", "I", false)
  | 2 => ("SheafVotes$Farm", "hands", "I", false)
  | 3 => ("SheafVotes$Farm", "opinion", "I", false)
  | 4 => ("SheafVotes$Farm", "had", "I", false)
  | 5 => ("SheafVotes$Farm", "reckonedWet", "I", false)
  | _ => ("SheafVotes$Farm", "reckonedDays", "I", false)
def tyX0 : Nat → FieldType := fun k => match k with
  | 0 => .int
  | 1 => .int
  | 2 => .int
  | 3 => .int
  | 4 => .int
  | 5 => .int
  | _ => .int
abbrev wsX00 : List Cond := u_ws RX0 TX0 7
theorem nmX0 : ∀ a, a < 7 → ∀ b, b < 7 → a ≠ b → (TX0 a).2.1 ≠ (TX0 b).2.1 := by decide +kernel
theorem tyX0_ok : ∀ k, k < 7 → parseFieldDescriptor (TX0 k).2.2.1 = some (tyX0 k) := by decide +kernel
abbrev cX0_init : ByteArray := prog_2_method_1_code
def yX0_init : MethodName := ⟨RX0, "<init>", "()V"⟩
abbrev cX0_mayBe : ByteArray := prog_2_method_2_code
def yX0_mayBe : MethodName := ⟨RX0, "mayBe", "(II)Z"⟩
abbrev cX0_begin : ByteArray := prog_2_method_3_code
def yX0_begin : MethodName := ⟨RX0, "begin", "(II)V"⟩
abbrev cX0_becomes : ByteArray := prog_2_method_4_code
def yX0_becomes : MethodName := ⟨RX0, "becomes", "(LSheafVotes$Farm;)V"⟩
abbrev cX0_told : ByteArray := prog_2_method_5_code
def yX0_told : MethodName := ⟨RX0, "told", "(I)I"⟩
abbrev cX0_alter : ByteArray := prog_2_method_6_code
def yX0_alter : MethodName := ⟨RX0, "alter", "(II)V"⟩
abbrev cX0_isOfKind : ByteArray := prog_2_method_7_code
def yX0_isOfKind : MethodName := ⟨RX0, "isOfKind", "(I)Z"⟩
abbrev cX0_reapsOf : ByteArray := prog_2_method_8_code
def yX0_reapsOf : MethodName := ⟨RX0, "reapsOf", "(II)I"⟩
abbrev cX0_daysIn : ByteArray := prog_2_method_9_code
def yX0_daysIn : MethodName := ⟨RX0, "daysIn", "(I)I"⟩
abbrev cX0_leftBehind : ByteArray := prog_2_method_10_code
def yX0_leftBehind : MethodName := ⟨RX0, "leftBehind", "(II)I"⟩
abbrev cX0_daysDownTo : ByteArray := prog_2_method_11_code
def yX0_daysDownTo : MethodName := ⟨RX0, "daysDownTo", "(III)I"⟩
abbrev cX0_tells : ByteArray := prog_2_method_12_code
def yX0_tells : MethodName := ⟨RX0, "tells", "()I"⟩
abbrev cX0_hasTheSheaf : ByteArray := prog_2_method_13_code
def yX0_hasTheSheaf : MethodName := ⟨RX0, "hasTheSheaf", "()V"⟩
abbrev cX0_losesHand : ByteArray := prog_2_method_14_code
def yX0_losesHand : MethodName := ⟨RX0, "losesHand", "()V"⟩
abbrev cX0_heeds : ByteArray := prog_2_method_15_code
def yX0_heeds : MethodName := ⟨RX0, "heeds", "(I)V"⟩
def RX1 : String := "SheafVotes$Parish"
def TX1 : u_T := fun k => match k with
  | 0 => ("SheafVotes$Parish", "weather", "[I", true)
  | 1 => ("SheafVotes$Parish", "rows", "[LSheafVotes$Farm;", true)
  | 2 => ("SheafVotes$Parish", "spots", "[I", true)
  | 3 => ("SheafVotes$Parish", "farms", "I", false)
  | 4 => ("SheafVotes$Parish", "year", "I", false)
  | _ => ("SheafVotes$Parish", "z", "I", false)
def tyX1 : Nat → FieldType := fun k => match k with
  | 0 => .array .int
  | 1 => .array (.object "SheafVotes$Farm")
  | 2 => .array .int
  | 3 => .int
  | 4 => .int
  | _ => .int
abbrev wsX10 : List Cond := u_ws RX1 TX1 6
theorem nmX1 : ∀ a, a < 6 → ∀ b, b < 6 → a ≠ b → (TX1 a).2.1 ≠ (TX1 b).2.1 := by decide +kernel
theorem tyX1_ok : ∀ k, k < 6 → parseFieldDescriptor (TX1 k).2.2.1 = some (tyX1 k) := by decide +kernel
abbrev cX1_init : ByteArray := prog_3_method_1_code
def yX1_init : MethodName := ⟨RX1, "<init>", "()V"⟩
abbrev cX1_becomes : ByteArray := prog_3_method_2_code
def yX1_becomes : MethodName := ⟨RX1, "becomes", "(LSheafVotes$Parish;)V"⟩
abbrev cX1_hasFarm : ByteArray := prog_3_method_3_code
def yX1_hasFarm : MethodName := ⟨RX1, "hasFarm", "(I)Z"⟩
abbrev cX1_isFull : ByteArray := prog_3_method_4_code
def yX1_isFull : MethodName := ⟨RX1, "isFull", "()Z"⟩
abbrev cX1_addFarm : ByteArray := prog_3_method_5_code
def yX1_addFarm : MethodName := ⟨RX1, "addFarm", "(II)I"⟩
abbrev cX1_mostDays : ByteArray := prog_3_method_6_code
def yX1_mostDays : MethodName := ⟨RX1, "mostDays", "()I"⟩
abbrev cX1_latest : ByteArray := prog_3_method_7_code
def yX1_latest : MethodName := ⟨RX1, "latest", "()I"⟩
abbrev cX1_latestBelow : ByteArray := prog_3_method_8_code
def yX1_latestBelow : MethodName := ⟨RX1, "latestBelow", "(I)I"⟩
abbrev cX1_earliest : ByteArray := prog_3_method_9_code
def yX1_earliest : MethodName := ⟨RX1, "earliest", "()I"⟩
abbrev cX1_isLatest : ByteArray := prog_3_method_10_code
def yX1_isLatest : MethodName := ⟨RX1, "isLatest", "(I)Z"⟩
abbrev cX1_leanNow : ByteArray := prog_3_method_11_code
def yX1_leanNow : MethodName := ⟨RX1, "leanNow", "()I"⟩
abbrev cX1_leanBy : ByteArray := prog_3_method_12_code
def yX1_leanBy : MethodName := ⟨RX1, "leanBy", "(I)I"⟩
abbrev cX1_answerTo : ByteArray := prog_3_method_13_code
def yX1_answerTo : MethodName := ⟨RX1, "answerTo", "(I)I"⟩
abbrev cX1_passYear : ByteArray := prog_3_method_14_code
def yX1_passYear : MethodName := ⟨RX1, "passYear", "()V"⟩
abbrev cX1_together : ByteArray := prog_3_method_15_code
def yX1_together : MethodName := ⟨RX1, "together", "(I)I"⟩
abbrev cX1_whoHadIt : ByteArray := prog_3_method_16_code
def yX1_whoHadIt : MethodName := ⟨RX1, "whoHadIt", "()I"⟩
abbrev cX1_spotsHeld : ByteArray := prog_3_method_17_code
def yX1_spotsHeld : MethodName := ⟨RX1, "spotsHeld", "()I"⟩
abbrev cX1_draw : ByteArray := prog_3_method_18_code
def yX1_draw : MethodName := ⟨RX1, "draw", "()I"⟩
def RX2 : String := "SheafVotes$Sheet"
def TX2 : u_T := fun k => match k with
  | 0 => ("SheafVotes$Sheet", "numbers", "[I", true)
  | 1 => ("SheafVotes$Sheet", "bits", "I", false)
  | _ => ("SheafVotes$Sheet", "length", "I", false)
def tyX2 : Nat → FieldType := fun k => match k with
  | 0 => .array .int
  | 1 => .int
  | _ => .int
abbrev wsX20 : List Cond := u_ws RX2 TX2 3
theorem nmX2 : ∀ a, a < 3 → ∀ b, b < 3 → a ≠ b → (TX2 a).2.1 ≠ (TX2 b).2.1 := by decide +kernel
theorem tyX2_ok : ∀ k, k < 3 → parseFieldDescriptor (TX2 k).2.2.1 = some (tyX2 k) := by decide +kernel
abbrev cX2_init : ByteArray := prog_4_method_1_code
def yX2_init : MethodName := ⟨RX2, "<init>", "()V"⟩
abbrev cX2_mayHave : ByteArray := prog_4_method_2_code
def yX2_mayHave : MethodName := ⟨RX2, "mayHave", "(I)Z"⟩
abbrev cX2_begin : ByteArray := prog_4_method_3_code
def yX2_begin : MethodName := ⟨RX2, "begin", "(II)V"⟩
abbrev cX2_isMissing : ByteArray := prog_4_method_4_code
def yX2_isMissing : MethodName := ⟨RX2, "isMissing", "()Z"⟩
abbrev cX2_put : ByteArray := prog_4_method_5_code
def yX2_put : MethodName := ⟨RX2, "put", "(II)V"⟩
abbrev cX2_hasRow : ByteArray := prog_4_method_6_code
def yX2_hasRow : MethodName := ⟨RX2, "hasRow", "(II)Z"⟩
def RX3 : String := "SheafVotes$Tape"
def TX3 : u_T := fun k => match k with
  | 0 => ("SheafVotes$Tape", "bytes", "[B", true)
  | 1 => ("SheafVotes$Tape", "size", "I", false)
  | 2 => ("SheafVotes$Tape", "begin", "I", false)
  | 3 => ("SheafVotes$Tape", "end", "I", false)
  | 4 => ("SheafVotes$Tape", "sort", "I", false)
  | _ => ("SheafVotes$Tape", "value", "I", false)
def tyX3 : Nat → FieldType := fun k => match k with
  | 0 => .array .byte
  | 1 => .int
  | 2 => .int
  | 3 => .int
  | 4 => .int
  | _ => .int
abbrev wsX30 : List Cond := u_ws RX3 TX3 6
theorem nmX3 : ∀ a, a < 6 → ∀ b, b < 6 → a ≠ b → (TX3 a).2.1 ≠ (TX3 b).2.1 := by decide +kernel
theorem tyX3_ok : ∀ k, k < 6 → parseFieldDescriptor (TX3 k).2.2.1 = some (tyX3 k) := by decide +kernel
abbrev cX3_init : ByteArray := prog_5_method_1_code
def yX3_init : MethodName := ⟨RX3, "<init>", "()V"⟩
abbrev cX3_add : ByteArray := prog_5_method_2_code
def yX3_add : MethodName := ⟨RX3, "add", "(B)V"⟩
abbrev cX3_lookFromBegin : ByteArray := prog_5_method_3_code
def yX3_lookFromBegin : MethodName := ⟨RX3, "lookFromBegin", "()V"⟩
abbrev cX3_advance : ByteArray := prog_5_method_4_code
def yX3_advance : MethodName := ⟨RX3, "advance", "()V"⟩
abbrev cX3_sortOfSign : ByteArray := prog_5_method_5_code
def yX3_sortOfSign : MethodName := ⟨RX3, "sortOfSign", "(B)I"⟩
abbrev cX3_isLetter : ByteArray := prog_5_method_6_code
def yX3_isLetter : MethodName := ⟨RX3, "isLetter", "(B)Z"⟩
abbrev cX3_isDigit : ByteArray := prog_5_method_7_code
def yX3_isDigit : MethodName := ⟨RX3, "isDigit", "(B)Z"⟩
abbrev cX3_isNumber : ByteArray := prog_5_method_8_code
def yX3_isNumber : MethodName := ⟨RX3, "isNumber", "(II)Z"⟩
abbrev cX3_isWord : ByteArray := prog_5_method_9_code
def yX3_isWord : MethodName := ⟨RX3, "isWord", "(Ljava/lang/String;)Z"⟩
def RX4 : String := "SheafVotes$TextReader"
def TX4 : u_T := fun k => match k with
  | 0 => ("SheafVotes$TextReader", "tape", "LSheafVotes$Tape;", true)
  | _ => ("SheafVotes$TextReader", "parish", "LSheafVotes$Parish;", true)
def tyX4 : Nat → FieldType := fun k => match k with
  | 0 => .object "SheafVotes$Tape"
  | _ => .object "SheafVotes$Parish"
abbrev wsX40 : List Cond := u_ws RX4 TX4 2
theorem nmX4 : ∀ a, a < 2 → ∀ b, b < 2 → a ≠ b → (TX4 a).2.1 ≠ (TX4 b).2.1 := by decide +kernel
theorem tyX4_ok : ∀ k, k < 2 → parseFieldDescriptor (TX4 k).2.2.1 = some (tyX4 k) := by decide +kernel
abbrev cX4_init : ByteArray := prog_6_method_1_code
def yX4_init : MethodName := ⟨RX4, "<init>", "(LSheafVotes$Tape;LSheafVotes$Parish;)V"⟩
abbrev cX4_readItems : ByteArray := prog_6_method_2_code
def yX4_readItems : MethodName := ⟨RX4, "readItems", "()I"⟩
abbrev cX4_readsItem : ByteArray := prog_6_method_3_code
def yX4_readsItem : MethodName := ⟨RX4, "readsItem", "()Z"⟩
abbrev cX4_readsWeather : ByteArray := prog_6_method_4_code
def yX4_readsWeather : MethodName := ⟨RX4, "readsWeather", "(I)Z"⟩
abbrev cX4_readsFarm : ByteArray := prog_6_method_5_code
def yX4_readsFarm : MethodName := ⟨RX4, "readsFarm", "(I)Z"⟩
abbrev cX4_readsHands : ByteArray := prog_6_method_6_code
def yX4_readsHands : MethodName := ⟨RX4, "readsHands", "(LSheafVotes$Farm;)Z"⟩
abbrev cX4_readsOpinion : ByteArray := prog_6_method_7_code
def yX4_readsOpinion : MethodName := ⟨RX4, "readsOpinion", "(LSheafVotes$Farm;)Z"⟩
abbrev cX4_wordOfKind : ByteArray := prog_6_method_8_code
def yX4_wordOfKind : MethodName := ⟨RX4, "wordOfKind", "(I)Ljava/lang/String;"⟩
abbrev cX4_wordOfWeather : ByteArray := prog_6_method_9_code
def yX4_wordOfWeather : MethodName := ⟨RX4, "wordOfWeather", "(I)Ljava/lang/String;"⟩
def RX5 : String := "SheafVotes"
def TX5 : u_T := fun k => match k with
  | 0 => ("SheafVotes", "parish", "LSheafVotes$Parish;", true)
  | 1 => ("SheafVotes", "kept", "LSheafVotes$Parish;", true)
  | 2 => ("SheafVotes", "trial", "LSheafVotes$Parish;", true)
  | 3 => ("SheafVotes", "tape", "LSheafVotes$Tape;", true)
  | 4 => ("SheafVotes", "reader", "LSheafVotes$TextReader;", true)
  | 5 => ("SheafVotes", "sheets", "[LSheafVotes$Sheet;", true)
  | 6 => ("SheafVotes", "findings", "[I", true)
  | _ => ("SheafVotes", "isKept", "Z", false)
def tyX5 : Nat → FieldType := fun k => match k with
  | 0 => .object "SheafVotes$Parish"
  | 1 => .object "SheafVotes$Parish"
  | 2 => .object "SheafVotes$Parish"
  | 3 => .object "SheafVotes$Tape"
  | 4 => .object "SheafVotes$TextReader"
  | 5 => .array (.object "SheafVotes$Sheet")
  | 6 => .array .int
  | _ => .boolean
abbrev wsX50 : List Cond := u_ws RX5 TX5 8
theorem nmX5 : ∀ a, a < 8 → ∀ b, b < 8 → a ≠ b → (TX5 a).2.1 ≠ (TX5 b).2.1 := by decide +kernel
theorem tyX5_ok : ∀ k, k < 8 → parseFieldDescriptor (TX5 k).2.2.1 = some (tyX5 k) := by decide +kernel
abbrev cX5_init : ByteArray := prog_1_method_1_code
def yX5_init : MethodName := ⟨RX5, "<init>", "()V"⟩
abbrev cX5_weather : ByteArray := prog_1_method_2_code
def yX5_weather : MethodName := ⟨RX5, "weather", "(II)I"⟩
abbrev cX5_farm : ByteArray := prog_1_method_3_code
def yX5_farm : MethodName := ⟨RX5, "farm", "(II)I"⟩
abbrev cX5_of : ByteArray := prog_1_method_4_code
def yX5_of : MethodName := ⟨RX5, "of", "(II)I"⟩
abbrev cX5_change : ByteArray := prog_1_method_5_code
def yX5_change : MethodName := ⟨RX5, "change", "(III)I"⟩
abbrev cX5_left : ByteArray := prog_1_method_6_code
def yX5_left : MethodName := ⟨RX5, "left", "(II)I"⟩
abbrev cX5_last : ByteArray := prog_1_method_7_code
def yX5_last : MethodName := ⟨RX5, "last", "()I"⟩
abbrev cX5_first : ByteArray := prog_1_method_8_code
def yX5_first : MethodName := ⟨RX5, "first", "()I"⟩
abbrev cX5_next : ByteArray := prog_1_method_9_code
def yX5_next : MethodName := ⟨RX5, "next", "()I"⟩
abbrev cX5_lean : ByteArray := prog_1_method_10_code
def yX5_lean : MethodName := ⟨RX5, "lean", "()I"⟩
abbrev cX5_answer : ByteArray := prog_1_method_11_code
def yX5_answer : MethodName := ⟨RX5, "answer", "(I)I"⟩
abbrev cX5_go : ByteArray := prog_1_method_12_code
def yX5_go : MethodName := ⟨RX5, "go", "(I)I"⟩
abbrev cX5_now : ByteArray := prog_1_method_13_code
def yX5_now : MethodName := ⟨RX5, "now", "(I)I"⟩
abbrev cX5_holder : ByteArray := prog_1_method_14_code
def yX5_holder : MethodName := ⟨RX5, "holder", "(I)I"⟩
abbrev cX5_ahead : ByteArray := prog_1_method_15_code
def yX5_ahead : MethodName := ⟨RX5, "ahead", "(III)I"⟩
abbrev cX5_leans : ByteArray := prog_1_method_16_code
def yX5_leans : MethodName := ⟨RX5, "leans", "(I)I"⟩
abbrev cX5_when : ByteArray := prog_1_method_17_code
def yX5_when : MethodName := ⟨RX5, "when", "(I)I"⟩
abbrev cX5_tie : ByteArray := prog_1_method_18_code
def yX5_tie : MethodName := ⟨RX5, "tie", "()I"⟩
abbrev cX5_turns : ByteArray := prog_1_method_19_code
def yX5_turns : MethodName := ⟨RX5, "turns", "(I)I"⟩
abbrev cX5_mostHands : ByteArray := prog_1_method_20_code
def yX5_mostHands : MethodName := ⟨RX5, "mostHands", "(I)I"⟩
abbrev cX5_fewestHands : ByteArray := prog_1_method_21_code
def yX5_fewestHands : MethodName := ⟨RX5, "fewestHands", "(I)I"⟩
abbrev cX5_lend : ByteArray := prog_1_method_22_code
def yX5_lend : MethodName := ⟨RX5, "lend", "(I)I"⟩
abbrev cX5_isLatestIfLent : ByteArray := prog_1_method_23_code
def yX5_isLatestIfLent : MethodName := ⟨RX5, "isLatestIfLent", "(III)Z"⟩
abbrev cX5_kinds : ByteArray := prog_1_method_24_code
def yX5_kinds : MethodName := ⟨RX5, "kinds", "(I)I"⟩
abbrev cX5_wetFor : ByteArray := prog_1_method_25_code
def yX5_wetFor : MethodName := ⟨RX5, "wetFor", "(I)I"⟩
abbrev cX5_tell : ByteArray := prog_1_method_26_code
def yX5_tell : MethodName := ⟨RX5, "tell", "(II)I"⟩
abbrev cX5_tryOpinion : ByteArray := prog_1_method_27_code
def yX5_tryOpinion : MethodName := ⟨RX5, "tryOpinion", "(II)V"⟩
abbrev cX5_voice : ByteArray := prog_1_method_28_code
def yX5_voice : MethodName := ⟨RX5, "voice", "()I"⟩
abbrev cX5_miceFor : ByteArray := prog_1_method_29_code
def yX5_miceFor : MethodName := ⟨RX5, "miceFor", "(II)I"⟩
abbrev cX5_wins : ByteArray := prog_1_method_30_code
def yX5_wins : MethodName := ⟨RX5, "wins", "(II)I"⟩
abbrev cX5_cut : ByteArray := prog_1_method_31_code
def yX5_cut : MethodName := ⟨RX5, "cut", "(II)I"⟩
abbrev cX5_isCutting : ByteArray := prog_1_method_32_code
def yX5_isCutting : MethodName := ⟨RX5, "isCutting", "(II)Z"⟩
abbrev cX5_winningCut : ByteArray := prog_1_method_33_code
def yX5_winningCut : MethodName := ⟨RX5, "winningCut", "(II)I"⟩
abbrev cX5_fits : ByteArray := prog_1_method_34_code
def yX5_fits : MethodName := ⟨RX5, "fits", "(II)I"⟩
abbrev cX5_thinks : ByteArray := prog_1_method_35_code
def yX5_thinks : MethodName := ⟨RX5, "thinks", "(II)I"⟩
abbrev cX5_refusalOfFit : ByteArray := prog_1_method_36_code
def yX5_refusalOfFit : MethodName := ⟨RX5, "refusalOfFit", "(II)I"⟩
abbrev cX5_opinionFits : ByteArray := prog_1_method_37_code
def yX5_opinionFits : MethodName := ⟨RX5, "opinionFits", "(LSheafVotes$Sheet;II)Z"⟩
abbrev cX5_weathers : ByteArray := prog_1_method_38_code
def yX5_weathers : MethodName := ⟨RX5, "weathers", "(I)I"⟩
abbrev cX5_odds : ByteArray := prog_1_method_39_code
def yX5_odds : MethodName := ⟨RX5, "odds", "(II)J"⟩
abbrev cX5_seed : ByteArray := prog_1_method_40_code
def yX5_seed : MethodName := ⟨RX5, "seed", "(I)I"⟩
abbrev cX5_feed : ByteArray := prog_1_method_41_code
def yX5_feed : MethodName := ⟨RX5, "feed", "(II)I"⟩
abbrev cX5_wipe : ByteArray := prog_1_method_42_code
def yX5_wipe : MethodName := ⟨RX5, "wipe", "()I"⟩
abbrev cX5_text : ByteArray := prog_1_method_43_code
def yX5_text : MethodName := ⟨RX5, "text", "()I"⟩
abbrev cX5_hold : ByteArray := prog_1_method_44_code
def yX5_hold : MethodName := ⟨RX5, "hold", "(II)I"⟩
abbrev cX5_as : ByteArray := prog_1_method_45_code
def yX5_as : MethodName := ⟨RX5, "as", "(II)I"⟩
abbrev cX5_sheet : ByteArray := prog_1_method_46_code
def yX5_sheet : MethodName := ⟨RX5, "sheet", "(III)I"⟩
abbrev cX5_write : ByteArray := prog_1_method_47_code
def yX5_write : MethodName := ⟨RX5, "write", "(III)I"⟩
abbrev cX5_copy : ByteArray := prog_1_method_48_code
def yX5_copy : MethodName := ⟨RX5, "copy", "(IIIII)I"⟩
abbrev cX5_load : ByteArray := prog_1_method_49_code
def yX5_load : MethodName := ⟨RX5, "load", "(I)I"⟩
abbrev cX5_judge : ByteArray := prog_1_method_50_code
def yX5_judge : MethodName := ⟨RX5, "judge", "(I)I"⟩
abbrev cX5_image : ByteArray := prog_1_method_51_code
def yX5_image : MethodName := ⟨RX5, "image", "()I"⟩
abbrev cX5_undo : ByteArray := prog_1_method_52_code
def yX5_undo : MethodName := ⟨RX5, "undo", "()I"⟩
abbrev cX5_tear : ByteArray := prog_1_method_53_code
def yX5_tear : MethodName := ⟨RX5, "tear", "()I"⟩
abbrev cX5_count : ByteArray := prog_1_method_54_code
def yX5_count : MethodName := ⟨RX5, "count", "(I)I"⟩
abbrev cX5_status : ByteArray := prog_1_method_55_code
def yX5_status : MethodName := ⟨RX5, "status", "(I)I"⟩
abbrev cX5_finding : ByteArray := prog_1_method_56_code
def yX5_finding : MethodName := ⟨RX5, "finding", "(I)I"⟩
abbrev cX5_refusalOfSheet : ByteArray := prog_1_method_57_code
def yX5_refusalOfSheet : MethodName := ⟨RX5, "refusalOfSheet", "(I)I"⟩
abbrev cX5_trialBehind : ByteArray := prog_1_method_58_code
def yX5_trialBehind : MethodName := ⟨RX5, "trialBehind", "(I)LSheafVotes$Parish;"⟩
abbrev cX5_isQuestion : ByteArray := prog_1_method_59_code
def yX5_isQuestion : MethodName := ⟨RX5, "isQuestion", "(I)Z"⟩
abbrev cX5_isAhead : ByteArray := prog_1_method_60_code
def yX5_isAhead : MethodName := ⟨RX5, "isAhead", "(I)Z"⟩
abbrev cX5_isIn : ByteArray := prog_1_method_61_code
def yX5_isIn : MethodName := ⟨RX5, "isIn", "(II)Z"⟩
abbrev cX5_within : ByteArray := prog_1_method_62_code
def yX5_within : MethodName := ⟨RX5, "within", "(III)Z"⟩
def RX6 : String := "SheafVotesModel"
def TX6 : u_T := fun k => match k with
  | 0 => ("SheafVotesModel", "s", "[I", true)
  | 1 => ("SheafVotesModel", "kept", "[I", true)
  | 2 => ("SheafVotesModel", "before", "[I", true)
  | 3 => ("SheafVotesModel", "aside", "[I", true)
  | 4 => ("SheafVotesModel", "isKept", "Z", false)
  | 5 => ("SheafVotesModel", "findings", "[I", true)
  | 6 => ("SheafVotesModel", "tape", "[I", true)
  | 7 => ("SheafVotesModel", "taped", "I", false)
  | 8 => ("SheafVotesModel", "bitsOf", "[I", true)
  | 9 => ("SheafVotesModel", "sizes", "[I", true)
  | 10 => ("SheafVotesModel", "numbers", "[I", true)
  | 11 => ("SheafVotesModel", "counted", "[I", true)
  | 12 => ("SheafVotesModel", "firstCut", "[I", true)
  | 13 => ("SheafVotesModel", "fitting", "I", false)
  | 14 => ("SheafVotesModel", "leastFit", "I", false)
  | 15 => ("SheafVotesModel", "token", "I", false)
  | 16 => ("SheafVotesModel", "from", "I", false)
  | 17 => ("SheafVotesModel", "to", "I", false)
  | 18 => ("SheafVotesModel", "value", "I", false)
  | _ => ("SheafVotesModel", "faultAt", "I", false)
def tyX6 : Nat → FieldType := fun k => match k with
  | 0 => .array .int
  | 1 => .array .int
  | 2 => .array .int
  | 3 => .array .int
  | 4 => .boolean
  | 5 => .array .int
  | 6 => .array .int
  | 7 => .int
  | 8 => .array .int
  | 9 => .array .int
  | 10 => .array .int
  | 11 => .array .int
  | 12 => .array .int
  | 13 => .int
  | 14 => .int
  | 15 => .int
  | 16 => .int
  | 17 => .int
  | 18 => .int
  | _ => .int
abbrev wsX60 : List Cond := u_ws RX6 TX6 20
theorem nmX6 : ∀ a, a < 20 → ∀ b, b < 20 → a ≠ b → (TX6 a).2.1 ≠ (TX6 b).2.1 := by decide +kernel
theorem tyX6_ok : ∀ k, k < 20 → parseFieldDescriptor (TX6 k).2.2.1 = some (tyX6 k) := by decide +kernel
abbrev cX6_init : ByteArray := prog_8_method_1_code
def yX6_init : MethodName := ⟨RX6, "<init>", "()V"⟩
abbrev cX6_isIn : ByteArray := prog_8_method_2_code
def yX6_isIn : MethodName := ⟨RX6, "isIn", "(JJJ)Z"⟩
abbrev cX6_finds : ByteArray := prog_8_method_3_code
def yX6_finds : MethodName := ⟨RX6, "finds", "(I)I"⟩
abbrev cX6_becomes : ByteArray := prog_8_method_4_code
def yX6_becomes : MethodName := ⟨RX6, "becomes", "(II)I"⟩
abbrev cX6_copyRow : ByteArray := prog_8_method_5_code
def yX6_copyRow : MethodName := ⟨RX6, "copyRow", "([I[I)V"⟩
abbrev cX6_isFarm : ByteArray := prog_8_method_6_code
def yX6_isFarm : MethodName := ⟨RX6, "isFarm", "(I)Z"⟩
abbrev cX6_its : ByteArray := prog_8_method_7_code
def yX6_its : MethodName := ⟨RX6, "its", "(II)I"⟩
abbrev cX6_least : ByteArray := prog_8_method_8_code
def yX6_least : MethodName := ⟨RX6, "least", "(II)I"⟩
abbrev cX6_greatest : ByteArray := prog_8_method_9_code
def yX6_greatest : MethodName := ⟨RX6, "greatest", "(II)I"⟩
abbrev cX6_orNone : ByteArray := prog_8_method_10_code
def yX6_orNone : MethodName := ⟨RX6, "orNone", "(I)I"⟩
abbrev cX6_many : ByteArray := prog_8_method_11_code
def yX6_many : MethodName := ⟨RX6, "many", "(I)I"⟩
abbrev cX6_weather : ByteArray := prog_8_method_12_code
def yX6_weather : MethodName := ⟨RX6, "weather", "(II)I"⟩
abbrev cX6_comes : ByteArray := prog_8_method_13_code
def yX6_comes : MethodName := ⟨RX6, "comes", "(II)V"⟩
abbrev cX6_farm : ByteArray := prog_8_method_14_code
def yX6_farm : MethodName := ⟨RX6, "farm", "(II)I"⟩
abbrev cX6_reaps : ByteArray := prog_8_method_15_code
def yX6_reaps : MethodName := ⟨RX6, "reaps", "(II)I"⟩
abbrev cX6_leftBehind : ByteArray := prog_8_method_16_code
def yX6_leftBehind : MethodName := ⟨RX6, "leftBehind", "(II)I"⟩
abbrev cX6_days : ByteArray := prog_8_method_17_code
def yX6_days : MethodName := ⟨RX6, "days", "(I)I"⟩
abbrev cX6_tells : ByteArray := prog_8_method_18_code
def yX6_tells : MethodName := ⟨RX6, "tells", "(I)I"⟩
abbrev cX6_of : ByteArray := prog_8_method_19_code
def yX6_of : MethodName := ⟨RX6, "of", "(II)I"⟩
abbrev cX6_isFit : ByteArray := prog_8_method_20_code
def yX6_isFit : MethodName := ⟨RX6, "isFit", "(II)Z"⟩
abbrev cX6_change : ByteArray := prog_8_method_21_code
def yX6_change : MethodName := ⟨RX6, "change", "(III)I"⟩
abbrev cX6_left : ByteArray := prog_8_method_22_code
def yX6_left : MethodName := ⟨RX6, "left", "(II)I"⟩
abbrev cX6_countsDays : ByteArray := prog_8_method_23_code
def yX6_countsDays : MethodName := ⟨RX6, "countsDays", "()V"⟩
abbrev cX6_mostDays : ByteArray := prog_8_method_24_code
def yX6_mostDays : MethodName := ⟨RX6, "mostDays", "()I"⟩
abbrev cX6_withDays : ByteArray := prog_8_method_25_code
def yX6_withDays : MethodName := ⟨RX6, "withDays", "(I)I"⟩
abbrev cX6_lasts : ByteArray := prog_8_method_26_code
def yX6_lasts : MethodName := ⟨RX6, "lasts", "()I"⟩
abbrev cX6_firsts : ByteArray := prog_8_method_27_code
def yX6_firsts : MethodName := ⟨RX6, "firsts", "()I"⟩
abbrev cX6_last : ByteArray := prog_8_method_28_code
def yX6_last : MethodName := ⟨RX6, "last", "()I"⟩
abbrev cX6_first : ByteArray := prog_8_method_29_code
def yX6_first : MethodName := ⟨RX6, "first", "()I"⟩
abbrev cX6_next : ByteArray := prog_8_method_30_code
def yX6_next : MethodName := ⟨RX6, "next", "()I"⟩
abbrev cX6_nearer : ByteArray := prog_8_method_31_code
def yX6_nearer : MethodName := ⟨RX6, "nearer", "(II)I"⟩
abbrev cX6_leanBy : ByteArray := prog_8_method_32_code
def yX6_leanBy : MethodName := ⟨RX6, "leanBy", "(I)I"⟩
abbrev cX6_leanNow : ByteArray := prog_8_method_33_code
def yX6_leanNow : MethodName := ⟨RX6, "leanNow", "()I"⟩
abbrev cX6_lean : ByteArray := prog_8_method_34_code
def yX6_lean : MethodName := ⟨RX6, "lean", "()I"⟩
abbrev cX6_isAsked : ByteArray := prog_8_method_35_code
def yX6_isAsked : MethodName := ⟨RX6, "isAsked", "(I)Z"⟩
abbrev cX6_answerTo : ByteArray := prog_8_method_36_code
def yX6_answerTo : MethodName := ⟨RX6, "answerTo", "(I)I"⟩
abbrev cX6_answer : ByteArray := prog_8_method_37_code
def yX6_answer : MethodName := ⟨RX6, "answer", "(I)I"⟩
abbrev cX6_year : ByteArray := prog_8_method_38_code
def yX6_year : MethodName := ⟨RX6, "year", "()V"⟩
abbrev cX6_years : ByteArray := prog_8_method_39_code
def yX6_years : MethodName := ⟨RX6, "years", "(I)V"⟩
abbrev cX6_go : ByteArray := prog_8_method_40_code
def yX6_go : MethodName := ⟨RX6, "go", "(I)I"⟩
abbrev cX6_sumOf : ByteArray := prog_8_method_41_code
def yX6_sumOf : MethodName := ⟨RX6, "sumOf", "(I)I"⟩
abbrev cX6_hadEver : ByteArray := prog_8_method_42_code
def yX6_hadEver : MethodName := ⟨RX6, "hadEver", "()I"⟩
abbrev cX6_now : ByteArray := prog_8_method_43_code
def yX6_now : MethodName := ⟨RX6, "now", "(I)I"⟩
abbrev cX6_isLong : ByteArray := prog_8_method_44_code
def yX6_isLong : MethodName := ⟨RX6, "isLong", "(I)Z"⟩
abbrev cX6_holder : ByteArray := prog_8_method_45_code
def yX6_holder : MethodName := ⟨RX6, "holder", "(I)I"⟩
abbrev cX6_ahead : ByteArray := prog_8_method_46_code
def yX6_ahead : MethodName := ⟨RX6, "ahead", "(III)I"⟩
abbrev cX6_leans : ByteArray := prog_8_method_47_code
def yX6_leans : MethodName := ⟨RX6, "leans", "(I)I"⟩
abbrev cX6_when : ByteArray := prog_8_method_48_code
def yX6_when : MethodName := ⟨RX6, "when", "(I)I"⟩
abbrev cX6_tie : ByteArray := prog_8_method_49_code
def yX6_tie : MethodName := ⟨RX6, "tie", "()I"⟩
abbrev cX6_turns : ByteArray := prog_8_method_50_code
def yX6_turns : MethodName := ⟨RX6, "turns", "(I)I"⟩
abbrev cX6_isLast : ByteArray := prog_8_method_51_code
def yX6_isLast : MethodName := ⟨RX6, "isLast", "(I)Z"⟩
abbrev cX6_mostHands : ByteArray := prog_8_method_52_code
def yX6_mostHands : MethodName := ⟨RX6, "mostHands", "(I)I"⟩
abbrev cX6_fewestHands : ByteArray := prog_8_method_53_code
def yX6_fewestHands : MethodName := ⟨RX6, "fewestHands", "(I)I"⟩
abbrev cX6_lend : ByteArray := prog_8_method_54_code
def yX6_lend : MethodName := ⟨RX6, "lend", "(I)I"⟩
abbrev cX6_kinds : ByteArray := prog_8_method_55_code
def yX6_kinds : MethodName := ⟨RX6, "kinds", "(I)I"⟩
abbrev cX6_wetFor : ByteArray := prog_8_method_56_code
def yX6_wetFor : MethodName := ⟨RX6, "wetFor", "(I)I"⟩
abbrev cX6_tell : ByteArray := prog_8_method_57_code
def yX6_tell : MethodName := ⟨RX6, "tell", "(II)I"⟩
abbrev cX6_voice : ByteArray := prog_8_method_58_code
def yX6_voice : MethodName := ⟨RX6, "voice", "()I"⟩
abbrev cX6_miceFor : ByteArray := prog_8_method_59_code
def yX6_miceFor : MethodName := ⟨RX6, "miceFor", "(II)I"⟩
abbrev cX6_findsCuts : ByteArray := prog_8_method_60_code
def yX6_findsCuts : MethodName := ⟨RX6, "findsCuts", "(II)V"⟩
abbrev cX6_isCut : ByteArray := prog_8_method_61_code
def yX6_isCut : MethodName := ⟨RX6, "isCut", "(II)Z"⟩
abbrev cX6_wins : ByteArray := prog_8_method_62_code
def yX6_wins : MethodName := ⟨RX6, "wins", "(II)I"⟩
abbrev cX6_cut : ByteArray := prog_8_method_63_code
def yX6_cut : MethodName := ⟨RX6, "cut", "(II)I"⟩
abbrev cX6_isTold : ByteArray := prog_8_method_64_code
def yX6_isTold : MethodName := ⟨RX6, "isTold", "(I)Z"⟩
abbrev cX6_findsFits : ByteArray := prog_8_method_65_code
def yX6_findsFits : MethodName := ⟨RX6, "findsFits", "(II)V"⟩
abbrev cX6_wantsFor : ByteArray := prog_8_method_66_code
def yX6_wantsFor : MethodName := ⟨RX6, "wantsFor", "(II)I"⟩
abbrev cX6_fits : ByteArray := prog_8_method_67_code
def yX6_fits : MethodName := ⟨RX6, "fits", "(II)I"⟩
abbrev cX6_thinks : ByteArray := prog_8_method_68_code
def yX6_thinks : MethodName := ⟨RX6, "thinks", "(II)I"⟩
abbrev cX6_draw : ByteArray := prog_8_method_69_code
def yX6_draw : MethodName := ⟨RX6, "draw", "()I"⟩
abbrev cX6_weathers : ByteArray := prog_8_method_70_code
def yX6_weathers : MethodName := ⟨RX6, "weathers", "(I)I"⟩
abbrev cX6_odds : ByteArray := prog_8_method_71_code
def yX6_odds : MethodName := ⟨RX6, "odds", "(II)J"⟩
abbrev cX6_seed : ByteArray := prog_8_method_72_code
def yX6_seed : MethodName := ⟨RX6, "seed", "(I)I"⟩
abbrev cX6_feed : ByteArray := prog_8_method_73_code
def yX6_feed : MethodName := ⟨RX6, "feed", "(II)I"⟩
abbrev cX6_wipe : ByteArray := prog_8_method_74_code
def yX6_wipe : MethodName := ⟨RX6, "wipe", "()I"⟩
abbrev cX6_isLetter : ByteArray := prog_8_method_75_code
def yX6_isLetter : MethodName := ⟨RX6, "isLetter", "(I)Z"⟩
abbrev cX6_isDigit : ByteArray := prog_8_method_76_code
def yX6_isDigit : MethodName := ⟨RX6, "isDigit", "(I)Z"⟩
abbrev cX6_byteAt : ByteArray := prog_8_method_77_code
def yX6_byteAt : MethodName := ⟨RX6, "byteAt", "(I)I"⟩
abbrev cX6_nextToken : ByteArray := prog_8_method_78_code
def yX6_nextToken : MethodName := ⟨RX6, "nextToken", "()V"⟩
abbrev cX6_has3 : ByteArray := prog_8_method_79_code
def yX6_has3 : MethodName := ⟨RX6, "has3", "(IIII)Z"⟩
abbrev cX6_isWord : ByteArray := prog_8_method_80_code
def yX6_isWord : MethodName := ⟨RX6, "isWord", "(I)Z"⟩
abbrev cX6_fails : ByteArray := prog_8_method_81_code
def yX6_fails : MethodName := ⟨RX6, "fails", "()Z"⟩
abbrev cX6_isFour : ByteArray := prog_8_method_82_code
def yX6_isFour : MethodName := ⟨RX6, "isFour", "(IIII)Z"⟩
abbrev cX6_isFive : ByteArray := prog_8_method_83_code
def yX6_isFive : MethodName := ⟨RX6, "isFive", "(IIIII)Z"⟩
abbrev cX6_isSix : ByteArray := prog_8_method_84_code
def yX6_isSix : MethodName := ⟨RX6, "isSix", "(IIIIII)Z"⟩
abbrev cX6_isNumber : ByteArray := prog_8_method_85_code
def yX6_isNumber : MethodName := ⟨RX6, "isNumber", "(II)Z"⟩
abbrev cX6_kindHere : ByteArray := prog_8_method_86_code
def yX6_kindHere : MethodName := ⟨RX6, "kindHere", "()I"⟩
abbrev cX6_handsHere : ByteArray := prog_8_method_87_code
def yX6_handsHere : MethodName := ⟨RX6, "handsHere", "()Z"⟩
abbrev cX6_thinksHere : ByteArray := prog_8_method_88_code
def yX6_thinksHere : MethodName := ⟨RX6, "thinksHere", "()Z"⟩
abbrev cX6_farmHere : ByteArray := prog_8_method_89_code
def yX6_farmHere : MethodName := ⟨RX6, "farmHere", "(I)Z"⟩
abbrev cX6_weatherHere : ByteArray := prog_8_method_90_code
def yX6_weatherHere : MethodName := ⟨RX6, "weatherHere", "(I)Z"⟩
abbrev cX6_itemHere : ByteArray := prog_8_method_91_code
def yX6_itemHere : MethodName := ⟨RX6, "itemHere", "()Z"⟩
abbrev cX6_text : ByteArray := prog_8_method_92_code
def yX6_text : MethodName := ⟨RX6, "text", "()I"⟩
abbrev cX6_hold : ByteArray := prog_8_method_93_code
def yX6_hold : MethodName := ⟨RX6, "hold", "(II)I"⟩
abbrev cX6_isUnder : ByteArray := prog_8_method_94_code
def yX6_isUnder : MethodName := ⟨RX6, "isUnder", "(II)Z"⟩
abbrev cX6_as : ByteArray := prog_8_method_95_code
def yX6_as : MethodName := ⟨RX6, "as", "(II)I"⟩
abbrev cX6_isSheet : ByteArray := prog_8_method_96_code
def yX6_isSheet : MethodName := ⟨RX6, "isSheet", "(I)Z"⟩
abbrev cX6_sheet : ByteArray := prog_8_method_97_code
def yX6_sheet : MethodName := ⟨RX6, "sheet", "(III)I"⟩
abbrev cX6_write : ByteArray := prog_8_method_98_code
def yX6_write : MethodName := ⟨RX6, "write", "(III)I"⟩
abbrev cX6_copy : ByteArray := prog_8_method_99_code
def yX6_copy : MethodName := ⟨RX6, "copy", "(IIIII)I"⟩
abbrev cX6_wants : ByteArray := prog_8_method_100_code
def yX6_wants : MethodName := ⟨RX6, "wants", "(I)I"⟩
abbrev cX6_load : ByteArray := prog_8_method_101_code
def yX6_load : MethodName := ⟨RX6, "load", "(I)I"⟩
abbrev cX6_judge : ByteArray := prog_8_method_102_code
def yX6_judge : MethodName := ⟨RX6, "judge", "(I)I"⟩
abbrev cX6_image : ByteArray := prog_8_method_103_code
def yX6_image : MethodName := ⟨RX6, "image", "()I"⟩
abbrev cX6_undo : ByteArray := prog_8_method_104_code
def yX6_undo : MethodName := ⟨RX6, "undo", "()I"⟩
abbrev cX6_tear : ByteArray := prog_8_method_105_code
def yX6_tear : MethodName := ⟨RX6, "tear", "()I"⟩
abbrev cX6_count : ByteArray := prog_8_method_106_code
def yX6_count : MethodName := ⟨RX6, "count", "(I)I"⟩
abbrev cX6_status : ByteArray := prog_8_method_107_code
def yX6_status : MethodName := ⟨RX6, "status", "(I)I"⟩
def RJ6 : String := "java/lang/Integer"
def TJ6 : u_T := fun k => match k with
  | _ => ("", "", "", false)
def tyJ6 : Nat → FieldType := fun k => match k with
  | _ => .int
abbrev wsJ60 : List Cond := u_ws RJ6 TJ6 0
theorem nmJ6 : ∀ a, a < 0 → ∀ b, b < 0 → a ≠ b → (TJ6 a).2.1 ≠ (TJ6 b).2.1 := by decide +kernel
theorem tyJ6_ok : ∀ k, k < 0 → parseFieldDescriptor (TJ6 k).2.2.1 = some (tyJ6 k) := by decide +kernel
abbrev cJ6_bitCount_0f7a4 : ByteArray := prog_9_method_49_code
def yJ6_bitCount_0f7a4 : MethodName := ⟨RJ6, "bitCount", "(I)I"⟩
def RJ9 : String := "java/lang/Math"
def TJ9 : u_T := fun k => match k with
  | _ => ("", "", "", false)
def tyJ9 : Nat → FieldType := fun k => match k with
  | _ => .int
abbrev wsJ90 : List Cond := u_ws RJ9 TJ9 0
theorem nmJ9 : ∀ a, a < 0 → ∀ b, b < 0 → a ≠ b → (TJ9 a).2.1 ≠ (TJ9 b).2.1 := by decide +kernel
theorem tyJ9_ok : ∀ k, k < 0 → parseFieldDescriptor (TJ9 k).2.2.1 = some (tyJ9 k) := by decide +kernel
abbrev cJ9_abs_0f7a4 : ByteArray := prog_10_method_59_code
def yJ9_abs_0f7a4 : MethodName := ⟨RJ9, "abs", "(I)I"⟩
abbrev cJ9_max_7cf53 : ByteArray := prog_10_method_65_code
def yJ9_max_7cf53 : MethodName := ⟨RJ9, "max", "(II)I"⟩
abbrev cJ9_min_7cf53 : ByteArray := prog_10_method_69_code
def yJ9_min_7cf53 : MethodName := ⟨RJ9, "min", "(II)I"⟩
def RJ0 : String := "java/lang/String"
def TJ0 : u_T := fun k => match k with
  | _ => ("", "", "", false)
def tyJ0 : Nat → FieldType := fun k => match k with
  | _ => .int
abbrev wsJ00 : List Cond := u_ws RJ0 TJ0 0
theorem nmJ0 : ∀ a, a < 0 → ∀ b, b < 0 → a ≠ b → (TJ0 a).2.1 ≠ (TJ0 b).2.1 := by decide +kernel
theorem tyJ0_ok : ∀ k, k < 0 → parseFieldDescriptor (TJ0 k).2.2.1 = some (tyJ0 k) := by decide +kernel
abbrev cJ0_length_8abf5 : ByteArray := prog_11_method_54_code
def yJ0_length_8abf5 : MethodName := ⟨RJ0, "length", "()I"⟩
abbrev cJ0_charAt_5068e : ByteArray := prog_11_method_56_code
def yJ0_charAt_5068e : MethodName := ⟨RJ0, "charAt", "(I)C"⟩
abbrev cJ0_coder_7d493 : ByteArray := prog_11_method_152_code
def yJ0_coder_7d493 : MethodName := ⟨RJ0, "coder", "()B"⟩
abbrev cJ0_isLatin1_aae02 : ByteArray := prog_11_method_154_code
def yJ0_isLatin1_aae02 : MethodName := ⟨RJ0, "isLatin1", "()Z"⟩
abbrev cJ0_checkIndex_df160 : ByteArray := prog_11_method_155_code
def yJ0_checkIndex_df160 : MethodName := ⟨RJ0, "checkIndex", "(II)V"⟩
def RJ1 : String := "java/lang/StringLatin1"
def TJ1 : u_T := fun k => match k with
  | _ => ("", "", "", false)
def tyJ1 : Nat → FieldType := fun k => match k with
  | _ => .int
abbrev wsJ10 : List Cond := u_ws RJ1 TJ1 0
theorem nmJ1 : ∀ a, a < 0 → ∀ b, b < 0 → a ≠ b → (TJ1 a).2.1 ≠ (TJ1 b).2.1 := by decide +kernel
theorem tyJ1_ok : ∀ k, k < 0 → parseFieldDescriptor (TJ1 k).2.2.1 = some (tyJ1 k) := by decide +kernel
abbrev cJ1_charAt_3b067 : ByteArray := prog_12_method_2_code
def yJ1_charAt_3b067 : MethodName := ⟨RJ1, "charAt", "([BI)C"⟩
def RJ2 : String := "java/lang/StringUTF16"
def TJ2 : u_T := fun k => match k with
  | _ => ("", "", "", false)
def tyJ2 : Nat → FieldType := fun k => match k with
  | _ => .int
abbrev wsJ20 : List Cond := u_ws RJ2 TJ2 0
theorem nmJ2 : ∀ a, a < 0 → ∀ b, b < 0 → a ≠ b → (TJ2 a).2.1 ≠ (TJ2 b).2.1 := by decide +kernel
theorem tyJ2_ok : ∀ k, k < 0 → parseFieldDescriptor (TJ2 k).2.2.1 = some (tyJ2 k) := by decide +kernel
abbrev cJ2_getChar_3b067 : ByteArray := prog_13_method_5_code
def yJ2_getChar_3b067 : MethodName := ⟨RJ2, "getChar", "([BI)C"⟩
abbrev cJ2_length_9d52b : ByteArray := prog_13_method_6_code
def yJ2_length_9d52b : MethodName := ⟨RJ2, "length", "([B)I"⟩
abbrev cJ2_charAt_3b067 : ByteArray := prog_13_method_83_code
def yJ2_charAt_3b067 : MethodName := ⟨RJ2, "charAt", "([BI)C"⟩
abbrev cJ2_checkIndex_2214a : ByteArray := prog_13_method_91_code
def yJ2_checkIndex_2214a : MethodName := ⟨RJ2, "checkIndex", "(I[B)V"⟩
def RJ10 : String := "java/lang/System"
def TJ10 : u_T := fun k => match k with
  | _ => ("", "", "", false)
def tyJ10 : Nat → FieldType := fun k => match k with
  | _ => .int
abbrev wsJ100 : List Cond := u_ws RJ10 TJ10 0
theorem nmJ10 : ∀ a, a < 0 → ∀ b, b < 0 → a ≠ b → (TJ10 a).2.1 ≠ (TJ10 b).2.1 := by decide +kernel
theorem tyJ10_ok : ∀ k, k < 0 → parseFieldDescriptor (TJ10 k).2.2.1 = some (tyJ10 k) := by decide +kernel
def RJ3 : String := "jdk/internal/util/Preconditions"
def TJ3 : u_T := fun k => match k with
  | _ => ("", "", "", false)
def tyJ3 : Nat → FieldType := fun k => match k with
  | _ => .int
abbrev wsJ30 : List Cond := u_ws RJ3 TJ3 0
theorem nmJ3 : ∀ a, a < 0 → ∀ b, b < 0 → a ≠ b → (TJ3 a).2.1 ≠ (TJ3 b).2.1 := by decide +kernel
theorem tyJ3_ok : ∀ k, k < 0 → parseFieldDescriptor (TJ3 k).2.2.1 = some (tyJ3 k) := by decide +kernel
abbrev cJ3_checkIndex_8e157 : ByteArray := prog_15_method_11_code
def yJ3_checkIndex_8e157 : MethodName := ⟨RJ3, "checkIndex", "(IILjava/util/function/BiFunction;)I"⟩
def RL : String := "SheafVotesLaw"
abbrev cL_law : ByteArray := code
def yL_law : MethodName := ⟨RL, "law", "([I)Z"⟩
abbrev vwCl : List vw_C := [(RX0, TX0, 7), (RX1, TX1, 6), (RX2, TX2, 3), (RX3, TX3, 6), (RX4, TX4, 2), (RX5, TX5, 8), (RX6, TX6, 20)]
end
section
/-! MY LAYER. A memory is a table of ints (cell, place); references are numbers of cells, fixed for good. 'Wm' says: from this frame the method comes to its end; 'Cn': a method's contract. No row below speaks of the machine's heap. -/
abbrev Mem : Type := Nat → Nat → Int32
abbrev GH : Type := (Nat → Nat) × va_G × (Nat → ClassId)
abbrev MT : Type := MethodName × ByteArray × Nat × Option FieldType × Nat
def tb : List Cond := lw_tbl.filter goodWord
def isNest : Cond → Bool
  | .fieldLinkNest .. => true
  | .methodLinkNest .. => true
  | _ => false
def nests : List Cond := lw_tbl.filter isNest
def wsM (M : MT) : List Cond := Cond.code M.1 M.2.1 M.2.2.1 M.2.2.2.1 :: tb
def rmD (d : Nat) : Room := { frames := d, cells := 0, slots := 0, locals := 40 * d }
def rmM (M : MT) : Room := rmD M.2.2.2.2
def rv (g : GH) : Value → Value
  | .ref k => .ref (g.1 k)
  | v => v
theorem rv_cat (g : GH) (v : Value) : (rv g v).category = v.category := by cases v <;> rfl
/-! the cells: 0 the class, 1 13 25 its parishes (weather, rows, 8 farms, spots behind each), 37 38 tape, 39 reader, 40 sheets, 41.. each sheet and its numbers, 49 findings; 50 the reference and 51 to 61 its rows -/
def kdP : List Nat := [1, 10, 12, 0, 0, 0, 0, 0, 0, 0, 0, 10]
def kdL : List Nat := [5] ++ kdP ++ kdP ++ kdP ++ [3, 11, 4, 13, 2, 10, 2, 10, 2, 10, 2, 10, 10, 6, 10, 10, 10, 10, 10, 10, 10, 10, 10, 10, 10]
def kd (k : Nat) : Nat := kdL.getD k 99
def alP : List Nat := [0, 3, 0, 0, 0, 0, 0, 0, 0, 0, 0, 10]
def alL : List Nat := [0] ++ alP ++ alP ++ alP ++ [0, 120, 0, 0, 0, 40, 0, 40, 0, 40, 0, 40, 7, 0, 56, 56, 56, 56, 8, 120, 4, 4, 160, 8, 201]
def al (k : Nat) : Nat := alL.getD k 0
theorem kd_len : kdL.length = 62 := by decide +kernel
theorem kd_lt {k c : Nat} (h : kd k = c) (hc : c < 99) : k < 62 := by
  rcases Nat.lt_or_ge k 62 with h1 | h1
  · exact h1
  · have : kd k = 99 := by
      unfold kd
      rw [List.getD_eq_getElem?_getD, List.getElem?_eq_none (by rw [kd_len]; exact h1)]
      rfl
    omega
def objM (ci k : Nat) (f : Nat → Int32) : List Value := match ci with
  | 0 => [.int (f 0), .int (f 1), .int (f 2), .int (f 3), .int (f 4), .int (f 5), .int (f 6)]
  | 1 => [.ref (k + 1), .ref (k + 2), .ref (k + 11), .int (f 3), .int (f 4), .int (f 5)]
  | 2 => [.ref (k + 1), .int (f 1), .int (f 2)]
  | 3 => [.ref (k + 1), .int (f 1), .int (f 2), .int (f 3), .int (f 4), .int (f 5)]
  | 4 => [.ref 37, .ref 25]
  | 5 => [.ref 1, .ref 13, .ref 25, .ref 37, .ref 39, .ref 40, .ref 49, .int (f 7)]
  | _ => [.ref 51, .ref 52, .ref 53, .ref 54, .int (f 4), .ref 55, .ref 56, .int (f 7), .ref 57, .ref 58, .ref 59, .ref 60, .ref 61, .int (f 13), .int (f 14), .int (f 15), .int (f 16), .int (f 17), .int (f 18), .int (f 19)]
def entF (g : GH) (k : Nat) (f : Nat → Int32) : va_E :=
  if kd k < 7 then .inr (kd k, (objM (kd k) k f).map (rv g))
  else if kd k = 10 then .inl (g.2.2 0, (al k, .inl f))
  else if kd k = 11 then .inl (g.2.2 1, (al k, .inl f))
  else if kd k = 12 then .inl (g.2.2 2, (8, .inr (.inr (.inr (.inr (fun i => some (g.1 (k + 1 + i))))))))
  else .inl (g.2.2 3, (4, .inr (.inr (.inr (.inr (fun i => some (g.1 (k + 1 + 2 * i))))))))
def cellsM (g : GH) (mem : Mem) : va_W := (List.range 62).map (fun k => (g.1 k, entF g k (mem k)))
theorem cells_at {g : GH} {mem : Mem} {k : Nat} (h : k < 62) : (cellsM g mem)[k]? = some (g.1 k, entF g k (mem k)) := by
  unfold cellsM
  rw [List.getElem?_map, List.getElem?_range h]
  rfl
theorem ent_obj {g : GH} {k ci : Nat} {f : Nat → Int32} (h : kd k = ci) (hc : ci < 7) : entF g k f = .inr (ci, (objM ci k f).map (rv g)) := by
  subst h
  unfold entF
  rw [if_pos hc]
theorem ent_int {g : GH} {k : Nat} {f : Nat → Int32} (h : kd k = 10) : entF g k f = .inl (g.2.2 0, (al k, .inl f)) := by
  unfold entF
  rw [h]
  rfl
theorem ent_byte {g : GH} {k : Nat} {f : Nat → Int32} (h : kd k = 11) : entF g k f = .inl (g.2.2 1, (al k, .inl f)) := by
  unfold entF
  rw [h]
  rfl
theorem ent_rows {g : GH} {k : Nat} {f : Nat → Int32} (h : kd k = 12) : entF g k f = .inl (g.2.2 2, (8, .inr (.inr (.inr (.inr (fun i => some (g.1 (k + 1 + i)))))))) := by
  unfold entF
  rw [h]
  rfl
theorem ent_sheets {g : GH} {k : Nat} {f : Nat → Int32} (h : kd k = 13) : entF g k f = .inl (g.2.2 3, (4, .inr (.inr (.inr (.inr (fun i => some (g.1 (k + 1 + 2 * i)))))))) := by
  unfold entF
  rw [h]
  rfl
/-- one place of the memory gets another int -/
def up2 (mem : Mem) (k j : Nat) (x : Int32) : Mem := fun a => if a = k then upd (mem k) j x else mem a
theorem up2_same (mem : Mem) (k j : Nat) (x : Int32) : up2 mem k j x k = upd (mem k) j x := by simp [up2]
theorem up2_ne (mem : Mem) {k a : Nat} (j : Nat) (x : Int32) (h : a ≠ k) : up2 mem k j x a = mem a := by simp [up2, h]
/-- one row of the memory becomes another -/
def upR (mem : Mem) (k : Nat) (f : Nat → Int32) : Mem := fun a => if a = k then f else mem a
theorem cells_set {g : GH} {mem mem' : Mem} {k : Nat} {e : va_E} (he : entF g k (mem' k) = e) (ho : ∀ a, a ≠ k → mem' a = mem a) : (cellsM g mem).set k (g.1 k, e) = cellsM g mem' := by
  apply List.ext_getElem?
  intro i
  by_cases hi : i < 62
  · rw [cells_at hi]
    by_cases hk : i = k
    · subst hk
      rw [List.getElem?_set_self (by unfold cellsM; simp; exact hi), he]
    · rw [List.getElem?_set_ne (Ne.symm hk), cells_at hi, ho i hk]
  · have h1 : (cellsM g mem').length ≤ i := by unfold cellsM; simp; omega
    have h2 : ((cellsM g mem).set k (g.1 k, e)).length ≤ i := by rw [List.length_set]; unfold cellsM; simp; omega
    rw [List.getElem?_eq_none h1, List.getElem?_eq_none h2]
def tysG (g : GH) : List (ClassId × FieldType) := [(g.2.2 0, .int), (g.2.2 1, .byte), (g.2.2 2, .object "SheafVotes$Farm"), (g.2.2 3, .object "SheafVotes$Sheet")]
def Ag (g : GH) : Nat → Prop := fun q => ∃ k, k < 62 ∧ q = g.1 k
def injG (g : GH) : Prop := ∀ i j, i < 62 → j < 62 → g.1 i = g.1 j → i = j
def Gd (g : GH) (U : State) : Prop := va_K g.2.1 vwCl (tysG g) U ∧ injG g
theorem cells_D {g : GH} {mem : Mem} (h : injG g) : va_D (Ag g) (cellsM g mem) := by
  have key : ∀ (k : Nat) (q : Nat × va_E), (cellsM g mem)[k]? = some q → k < 62 ∧ q.1 = g.1 k := by
    intro k q hq
    have hk : k < 62 := by
      have := (List.getElem?_eq_some_iff.mp hq).1
      unfold cellsM at this
      simpa using this
    rw [cells_at hk] at hq
    cases hq
    exact ⟨hk, rfl⟩
  refine ⟨fun i j x y hx hy hxy => ?_, fun k q hq => ?_⟩
  · obtain ⟨h1, e1⟩ := key i x hx
    obtain ⟨h2, e2⟩ := key j y hy
    exact h i j h1 h2 (by rw [← e1, ← e2]; exact hxy)
  · obtain ⟨h1, e1⟩ := key k q hq
    exact ⟨k, h1, e1⟩
end
section
/-! what is given of statics and texts; the two judgements -/
def stN : Nat → String
  | 0 => "LEAST_OF"
  | 1 => "MOST_OF"
  | 2 => "KIND_ABOVE"
  | _ => "REAPED_ALIKE_ABOVE"
def stL : Nat → List Int32
  | 0 => [0, 0, 1, -9, 0]
  | 1 => [6, 999, 20, 9, 9999]
  | 2 => [-1, 0, 0, 2, 3, 0, 1]
  | _ => [20, 5, 0]
def strK : List Nat := [103, 105, 107, 109, 111, 113, 115, 93, 101, 117, 119, 121]
def strT : List String := ["farm", "lame", "proud", "sly", "deep", "machine", "old", "hands", "thinks", "wet", "mice", "rain"]
def strN : List Nat := [4, 4, 5, 3, 4, 7, 3, 5, 6, 3, 4, 4]
def strB : List (List Int32) := [[102, 97, 114, 109], [108, 97, 109, 101], [112, 114, 111, 117, 100], [115, 108, 121], [100, 101, 101, 112], [109, 97, 99, 104, 105, 110, 101], [111, 108, 100], [104, 97, 110, 100, 115], [116, 104, 105, 110, 107, 115], [119, 101, 116], [109, 105, 99, 101], [114, 97, 105, 110]]
def stOne (g : GH) (t : Nat) (U : State) (H : Heap) : Prop := va_Z "SheafVotes" (stN t) "[I" (.ref (g.1 (100 + t))) (Ag g) U H ∧ va_T .int (g.1 (100 + t)) (stL t).length (fun j => .int ((stL t).getD j 0)) (Ag g) U H
def sioZ (g : GH) (U : State) (H : Heap) : Prop := va_Z "jdk/internal/util/Preconditions" "SIOOBE_FORMATTER" "Ljava/util/function/BiFunction;" .null (Ag g) U H ∨ va_Z "jdk/internal/util/Preconditions" "SIOOBE_FORMATTER" "Ljava/util/function/BiFunction;" (.ref (g.1 999)) (Ag g) U H
def Stt (g : GH) (U : State) (H : Heap) : Prop :=
  (∀ w ∈ nests, va_Nw w U) ∧ (∀ t, t < 4 → stOne g t U H) ∧ (∀ i, i < 12 → vk_R "SheafVotes$TextReader" (strK.getD i 0) (strT.getD i "") (g.1 (200 + i)) U) ∧ vk_S 12 strN strB (fun i => g.1 (200 + i)) (fun i => g.1 (300 + i)) (Ag g) U H ∧ va_Z "java/lang/String" "COMPACT_STRINGS" "Z" (.int 1) (Ag g) U H ∧ sioZ g U H
theorem nest_warm {w : Cond} {s U : State} (h : isNest w = true) (hW : s.WarmedH U.vm) (hZ : va_Nw w s) : va_Nw w U := by
  cases w <;> first | exact va_Nw.warmF hW hZ | exact va_Nw.warmM hW hZ | (simp [isNest] at h)
theorem nest_tab {w : Cond} (h : isNest w = true) : w.onTables = true := by
  cases w <;> first | rfl | (simp [isNest] at h)
theorem nest_in {w : Cond} (h : w ∈ nests) : isNest w = true := (List.mem_filter.mp h).2
theorem Stt.go {g : GH} {s U : State} {H : Heap} {locs : List Loc} (h : Stt g s s.heap) (hS : va_S (Ag g) s.heap H locs) (hU : U.heap = H) (hW : s.WarmedH U.vm) : Stt g U U.heap := by
  obtain ⟨h1, h2, h3, h4, h5, h6⟩ := h
  rw [hU]
  refine ⟨fun w hw => nest_warm (nest_in hw) hW (h1 w hw), fun t ht => ⟨((h2 t ht).1.kept hS.2.1).moved hW.alike, ((h2 t ht).2.kept hS.2.1).moved hW.alike⟩, fun i hi => (h3 i hi).warm hW, (h4.kept hS.2.1).moved hW.alike, (h5.kept hS.2.1).moved hW.alike, ?_⟩
  rcases h6 with h6 | h6
  · exact Or.inl ((h6.kept hS.2.1).moved hW.alike)
  · exact Or.inr ((h6.kept hS.2.1).moved hW.alike)
theorem Stt.same {g : GH} {s U : State} (h : Stt g s s.heap) (hU : U.heap = s.heap) (hv : U.vm = s.vm) : Stt g U U.heap := by
  obtain ⟨h1, h2, h3, h4, h5, h6⟩ := h
  have hal : s.vm.Alike U.vm := by rw [hv]; exact Vm.Alike.refl _
  rw [hU]
  refine ⟨fun w hw => va_Nw.same (nest_tab (nest_in hw)) hv.symm (h1 w hw), fun t ht => ⟨(h2 t ht).1.moved hal, (h2 t ht).2.moved hal⟩, fun i hi => (h3 i hi).same hv, h4.moved hal, h5.moved hal, ?_⟩
  rcases h6 with h6 | h6
  · exact Or.inl (h6.moved hal)
  · exact Or.inr (h6.moved hal)
def Inv (g : GH) (mem : Mem) (U : State) : Prop := Gd g U ∧ va_P g.2.1 vwCl (cellsM g mem) U.heap ∧ Stt g U U.heap
abbrev ZT : Type := Room × Nat × Nat × (GH → State → Array Value → Prop) × (GH → State → Array Value → List Frame → State → Prop)
def Ctx (M : MT) (Z : ZT) (g : GH) (p : Program) (s : State) (m : MethodId) (args : Array Value) (meth : Method) (c : Code) : Prop :=
  p.tables.exec = Jvm.exec ∧ c.code = M.2.1 ∧ meth.sig.returnType = M.2.2.2.1 ∧ c.maxLocals = M.2.2.1 ∧ s.vm.findClass M.1.cls = some m.cls ∧ (∀ w ∈ tb, w.before args s = true) ∧ meth.locks = false ∧ Gd g s ∧ Stt g s s.heap ∧ Z.2.2.2.1 g s args
def lhas (g : GH) (la : Array Slot) (n : Nat) (ls : List (Option Value)) : Prop := la.size = n ∧ lv_wf la ∧ ∀ (i : Nat) (v : Value), ls[i]? = some (some v) → la[i]? = some (.val (rv g v))
def Wm (M : MT) (Z : ZT) (pc : Nat) (ls : List (Option Value)) (st : List Value) (mem : Mem) : Prop :=
  ∀ (g : GH) (p : Program) (l : Launch) (e : Env) (s : State) (m : MethodId) (args : Array Value) (below : List Frame) (meth : Method) (c : Code) (H : Heap) (locs : List Loc) (la : Array Slot), Ctx M Z g p s m args meth c → va_P g.2.1 vwCl (cellsM g mem) H → va_S (Ag g) s.heap H locs → lhas g la M.2.2.1 ls → W p l e Z.1 s m args below meth c H locs Z.2.1 Z.2.2.1 (Z.2.2.2.2 g s args below) (F0 m pc la (st.map (rv g)))
def Qm (g : GH) (Post : Option Value → Mem → Prop) : Array Value → State → Outcome → State → Prop := fun _ st oc t => (∃ (r : Option Value) (mem' : Mem), oc = .returned (r.map (rv g)) ∧ Post r mem' ∧ va_P g.2.1 vwCl (cellsM g mem') t.heap) ∧ va_F (Ag g) st t
def Cn (M : MT) (as : List Value) (mem : Mem) (Post : Option Value → Mem → Prop) : Prop :=
  ∀ (l : Launch) (g : GH), Met l M.1 (wsM M) (rmM M) (va_Pc (as.map (rv g)) (fun U => Inv g mem U)) (Qm g Post) 0 0 (Ag g)
def zM (M : MT) (Post : Option Value → Mem → Prop) : ZT := (rmM M, 0, 0, fun _ _ _ => True, fun g s args below => MQ below (Qm g Post) args s 0 0 (Ag g))
/-! entry -/
def entA : List Value → List (Option Value)
  | [] => []
  | v :: vs => if v.category = 2 then some v :: none :: entA vs else some v :: entA vs
theorem entA_in (g : GH) : ∀ (as : List Value) (off i : Nat) (v : Value), (entA as)[i]? = some (some v) → (off + i, rv g v) ∈ lv_args off (as.map (rv g)) := by
  intro as
  induction as with
  | nil => intro off i v h; simp [entA] at h
  | cons a as ih =>
    intro off i v h
    rw [List.map_cons, lv_args, rv_cat]
    unfold entA at h
    by_cases hc : a.category = 2
    · rw [if_pos hc] at h ⊢
      match i, h with
      | 0, h => simp at h; subst h; exact List.mem_cons_self
      | 1, h => simp at h
      | i + 2, h =>
        simp only [List.getElem?_cons_succ] at h
        have := ih (off + 2) i v h
        rw [show off + (i + 2) = off + 2 + i by omega]
        exact List.mem_cons_of_mem _ this
    · rw [if_neg hc] at h ⊢
      match i, h with
      | 0, h => simp at h; subst h; exact List.mem_cons_self
      | i + 1, h =>
        simp only [List.getElem?_cons_succ] at h
        have := ih (off + 1) i v h
        rw [show off + (i + 1) = off + 1 + i by omega]
        exact List.mem_cons_of_mem _ this
theorem entA_len (g : GH) (as : List Value) : (lg_sl (as.map (rv g))).length = (entA as).length := by
  induction as with
  | nil => rfl
  | cons a as ih =>
    unfold entA
    by_cases hc : a.category = 2
    · rw [if_pos hc]
      simp only [lg_sl, List.map_cons, List.flatMap_cons, rv_cat, hc, if_true] at ih ⊢
      simp only [List.length_append, List.length_cons, List.length_nil]
      omega
    · rw [if_neg hc]
      simp only [lg_sl, List.map_cons, List.flatMap_cons, rv_cat, hc, if_false] at ih ⊢
      simp only [List.length_append, List.length_cons, List.length_nil]
      omega
theorem Cn.of {M : MT} {as : List Value} {mem : Mem} {Post : Option Value → Mem → Prop} {ls : List (Option Value)} (hy : plainName M.1.cls = true) (hls : ls = entA as ++ List.replicate (M.2.2.1 - (entA as).length) none) (hn : (entA as).length ≤ M.2.2.1) (h : Wm M (zM M Post) 0 ls [] mem) : Cn M as mem Post := by
  intro l g
  refine Met.ofW (cc := M.2.1) (maxL := M.2.2.1) (ret := M.2.2.2.1) hy rfl ?_
  intro p e s m args below meth c s₁ B hml hv
  obtain ⟨rfl, hG, hP, hT⟩ := hv
  have hts := atoms_spec (ws := wsM M) B.pre
  have hown : s.vm.findClass M.1.cls = some m.cls := findClass_of_methodNamed B.named
  rw [lg_entry_eq]
  have hl := lv_entry (as.map (rv g)) (n := M.2.2.1) (by rw [entA_len]; exact hn)
  refine h g p l e s m _ below meth c s.heap [] _ ⟨B.exec, B.bytes, B.returns, hml, hown, fun w hw => hts w (List.mem_cons_of_mem _ hw), B.notSynchronized, hG, hT, trivial⟩ hP va_S.rf ⟨hl.1, hl.2.1, fun i v hv => ?_⟩
  subst hls
  refine hl.2.2 (i, rv g v) ?_
  have hi : (entA as)[i]? = some (some v) := by
    by_cases hlt : i < (entA as).length
    · rw [List.getElem?_append_left hlt] at hv; exact hv
    · rw [List.getElem?_append_right (by omega)] at hv
      have := List.mem_of_getElem? hv
      have := List.eq_of_mem_replicate this
      cases this
  have := entA_in g as 0 i v hi
  rwa [Nat.zero_add] at this
/-! returns -/
section RET
variable {M : MT} {Post : Option Value → Mem → Prop} {pc : Nat} {ls : List (Option Value)} {mem : Mem}
theorem w_iret {v : Int32} (hd : decode M.2.1 pc = .ok (.ireturn, 1)) (hr : M.2.2.2.1 = some .int) (hp : Post (some (.int v)) mem) : Wm M (zM M Post) pc ls [.int v] mem := by
  intro g p l e s m args below meth c H locs la C hP hS hl
  obtain ⟨hx, hb, hrt, hml, hown, hts, hlocks, hG, hT, -⟩ := C
  exact W.iret (v := v) hx hb (hrt.trans hr) (fun t ht hW => ⟨⟨some (.int v), mem, rfl, hp, by rw [ht]; exact hP⟩, hS.F ht⟩) hS.2.2 hd
theorem w_zret {v : Int32} {ty : FieldType} (hd : decode M.2.1 pc = .ok (.ireturn, 1)) (hr : M.2.2.2.1 = some ty) (hn : narrow ty (.int v) = .int v) (hp : Post (some (.int v)) mem) : Wm M (zM M Post) pc ls [.int v] mem := by
  intro g p l e s m args below meth c H locs la C hP hS hl
  obtain ⟨hx, hb, hrt, hml, hown, hts, hlocks, hG, hT, -⟩ := C
  exact W.zret (v := v) hx hb (hrt.trans hr) hn (fun t ht hW => ⟨⟨some (.int v), mem, rfl, hp, by rw [ht]; exact hP⟩, hS.F ht⟩) hS.2.2 hd
theorem w_vret (hd : decode M.2.1 pc = .ok (.return_, 1)) (hr : M.2.2.2.1 = none) (hp : Post none mem) : Wm M (zM M Post) pc ls [] mem := by
  intro g p l e s m args below meth c H locs la C hP hS hl
  obtain ⟨hx, hb, hrt, hml, hown, hts, hlocks, hG, hT, -⟩ := C
  exact W.vret hx hb (hrt.trans hr) (fun t ht hW => ⟨⟨none, mem, rfl, hp, by rw [ht]; exact hP⟩, hS.F ht⟩) hS.2.2 hd
theorem w_lret {v : Int64} (hd : decode M.2.1 pc = .ok (.lreturn, 1)) (hr : M.2.2.2.1 = some .long) (hp : Post (some (.long v)) mem) : Wm M (zM M Post) pc ls [.long v] mem := by
  intro g p l e s m args below meth c H locs la C hP hS hl
  obtain ⟨hx, hb, hrt, hml, hown, hts, hlocks, hG, hT, -⟩ := C
  exact W.lret (v := v) hx hb (hrt.trans hr) (fun t ht hW => ⟨⟨some (.long v), mem, rfl, hp, by rw [ht]; exact hP⟩, hS.F ht⟩) hS.2.2 hd
theorem w_aret {k : Nat} {rn : String} (hd : decode M.2.1 pc = .ok (.areturn, 1)) (hr : M.2.2.2.1 = some (.object rn)) (hp : Post (some (.ref k)) mem) : Wm M (zM M Post) pc ls [.ref k] mem := by
  intro g p l e s m args below meth c H locs la C hP hS hl
  obtain ⟨hx, hb, hrt, hml, hown, hts, hlocks, hG, hT, -⟩ := C
  exact W.aret (v := .ref (g.1 k)) hx hb (hrt.trans hr) (Or.inl ⟨rn, rfl⟩) (Or.inr ⟨_, rfl⟩) (fun t ht hW => ⟨⟨some (.ref k), mem, rfl, hp, by rw [ht]; exact hP⟩, hS.F ht⟩) hS.2.2 hd
end RET
end
section
/-! a row for each plain instruction -/
section ROWS
variable {M : MT} {Z : ZT} {pc n' : Nat} {ls ls' : List (Option Value)} {st : List Value} {mem : Mem}
theorem w_iconst {n : Int} {v : Int32} (hd : decode M.2.1 pc = .ok (.iconst n, 1)) (hn : pc + 1 = n') (hv : Int32.ofInt n = v) (k : Wm M Z n' ls (.int v :: st) mem) : Wm M Z pc ls (st) mem := by
  subst hn
  intro g p l e s m args below meth c H locs la C hP hS hl
  exact lv_iconst C.1 C.2.1 hd hv (k g p l e s m args below meth c H locs la C hP hS hl)
theorem w_bipush {n : Int} {v : Int32} (hd : decode M.2.1 pc = .ok (.bipush n, 2)) (hn : pc + 2 = n') (hv : (Int8.ofInt n).toInt32 = v) (k : Wm M Z n' ls (.int v :: st) mem) : Wm M Z pc ls (st) mem := by
  subst hn
  intro g p l e s m args below meth c H locs la C hP hS hl
  exact lv_bipush C.1 C.2.1 hd hv (k g p l e s m args below meth c H locs la C hP hS hl)
theorem w_sipush {n : Int} {v : Int32} (hd : decode M.2.1 pc = .ok (.sipush n, 3)) (hn : pc + 3 = n') (hv : (Int16.ofInt n).toInt32 = v) (k : Wm M Z n' ls (.int v :: st) mem) : Wm M Z pc ls (st) mem := by
  subst hn
  intro g p l e s m args below meth c H locs la C hP hS hl
  exact lv_sipush C.1 C.2.1 hd hv (k g p l e s m args below meth c H locs la C hP hS hl)
theorem w_lconst {n : Fin 2} {v : Int64} (hd : decode M.2.1 pc = .ok (.lconst n, 1)) (hn : pc + 1 = n') (hv : Int64.ofNat (n : Nat) = v) (k : Wm M Z n' ls (.long v :: st) mem) : Wm M Z pc ls (st) mem := by
  subst hn
  intro g p l e s m args below meth c H locs la C hP hS hl
  exact lv_lconst C.1 C.2.1 hd hv (k g p l e s m args below meth c H locs la C hP hS hl)
theorem w_iadd {x y : Int32} (hd : decode M.2.1 pc = .ok (.iadd, 1)) (hn : pc + 1 = n')  (k : Wm M Z n' ls (.int (x + y) :: st) mem) : Wm M Z pc ls (.int y :: .int x :: st) mem := by
  subst hn
  intro g p l e s m args below meth c H locs la C hP hS hl
  exact lv_iadd C.1 C.2.1 hd (k g p l e s m args below meth c H locs la C hP hS hl)
theorem w_isub {x y : Int32} (hd : decode M.2.1 pc = .ok (.isub, 1)) (hn : pc + 1 = n')  (k : Wm M Z n' ls (.int (x - y) :: st) mem) : Wm M Z pc ls (.int y :: .int x :: st) mem := by
  subst hn
  intro g p l e s m args below meth c H locs la C hP hS hl
  exact lv_isub C.1 C.2.1 hd (k g p l e s m args below meth c H locs la C hP hS hl)
theorem w_imul {x y : Int32} (hd : decode M.2.1 pc = .ok (.imul, 1)) (hn : pc + 1 = n')  (k : Wm M Z n' ls (.int (x * y) :: st) mem) : Wm M Z pc ls (.int y :: .int x :: st) mem := by
  subst hn
  intro g p l e s m args below meth c H locs la C hP hS hl
  exact lv_imul C.1 C.2.1 hd (k g p l e s m args below meth c H locs la C hP hS hl)
theorem w_iand {x y : Int32} (hd : decode M.2.1 pc = .ok (.iand, 1)) (hn : pc + 1 = n')  (k : Wm M Z n' ls (.int (x &&& y) :: st) mem) : Wm M Z pc ls (.int y :: .int x :: st) mem := by
  subst hn
  intro g p l e s m args below meth c H locs la C hP hS hl
  exact lv_iand C.1 C.2.1 hd (k g p l e s m args below meth c H locs la C hP hS hl)
theorem w_ior {x y : Int32} (hd : decode M.2.1 pc = .ok (.ior, 1)) (hn : pc + 1 = n')  (k : Wm M Z n' ls (.int (x ||| y) :: st) mem) : Wm M Z pc ls (.int y :: .int x :: st) mem := by
  subst hn
  intro g p l e s m args below meth c H locs la C hP hS hl
  exact lv_ior C.1 C.2.1 hd (k g p l e s m args below meth c H locs la C hP hS hl)
theorem w_ishl {x y : Int32} (hd : decode M.2.1 pc = .ok (.ishl, 1)) (hn : pc + 1 = n')  (k : Wm M Z n' ls (.int (x <<< (y &&& 31)) :: st) mem) : Wm M Z pc ls (.int y :: .int x :: st) mem := by
  subst hn
  intro g p l e s m args below meth c H locs la C hP hS hl
  exact lv_ishl C.1 C.2.1 hd (k g p l e s m args below meth c H locs la C hP hS hl)
theorem w_ishr {x y : Int32} (hd : decode M.2.1 pc = .ok (.ishr, 1)) (hn : pc + 1 = n')  (k : Wm M Z n' ls (.int (x >>> (y &&& 31)) :: st) mem) : Wm M Z pc ls (.int y :: .int x :: st) mem := by
  subst hn
  intro g p l e s m args below meth c H locs la C hP hS hl
  exact lv_ishr C.1 C.2.1 hd (k g p l e s m args below meth c H locs la C hP hS hl)
theorem w_iushr {x y v : Int32} (hd : decode M.2.1 pc = .ok (.iushr, 1)) (hn : pc + 1 = n') (hv : (x.toUInt32 >>> (y.toUInt32 &&& Int32.toUInt32 31)).toInt32 = v) (k : Wm M Z n' ls (.int v :: st) mem) : Wm M Z pc ls (.int y :: .int x :: st) mem := by
  subst hn
  intro g p l e s m args below meth c H locs la C hP hS hl
  exact lv_iushr C.1 C.2.1 hd hv (k g p l e s m args below meth c H locs la C hP hS hl)
theorem w_idiv {x y : Int32} (hd : decode M.2.1 pc = .ok (.idiv, 1)) (hn : pc + 1 = n') (hne : ¬ y = 0) (k : Wm M Z n' ls (.int (x / y) :: st) mem) : Wm M Z pc ls (.int y :: .int x :: st) mem := by
  subst hn
  intro g p l e s m args below meth c H locs la C hP hS hl
  exact lv_idiv C.1 C.2.1 hd hne (k g p l e s m args below meth c H locs la C hP hS hl)
theorem w_irem {x y : Int32} (hd : decode M.2.1 pc = .ok (.irem, 1)) (hn : pc + 1 = n') (hne : ¬ y = 0) (k : Wm M Z n' ls (.int (x - x / y * y) :: st) mem) : Wm M Z pc ls (.int y :: .int x :: st) mem := by
  subst hn
  intro g p l e s m args below meth c H locs la C hP hS hl
  exact lv_irem C.1 C.2.1 hd hne (k g p l e s m args below meth c H locs la C hP hS hl)
theorem w_ineg {x : Int32} (hd : decode M.2.1 pc = .ok (.ineg, 1)) (hn : pc + 1 = n')  (k : Wm M Z n' ls (.int (0 - x) :: st) mem) : Wm M Z pc ls (.int x :: st) mem := by
  subst hn
  intro g p l e s m args below meth c H locs la C hP hS hl
  exact lv_ineg C.1 C.2.1 hd (k g p l e s m args below meth c H locs la C hP hS hl)
theorem w_lmul {x y : Int64} (hd : decode M.2.1 pc = .ok (.lmul, 1)) (hn : pc + 1 = n')  (k : Wm M Z n' ls (.long (x * y) :: st) mem) : Wm M Z pc ls (.long y :: .long x :: st) mem := by
  subst hn
  intro g p l e s m args below meth c H locs la C hP hS hl
  exact lv_lmul C.1 C.2.1 hd (k g p l e s m args below meth c H locs la C hP hS hl)
theorem w_lcmp {x y : Int64} (hd : decode M.2.1 pc = .ok (.lcmp, 1)) (hn : pc + 1 = n')  (k : Wm M Z n' ls (.int (lg_cmp x y) :: st) mem) : Wm M Z pc ls (.long y :: .long x :: st) mem := by
  subst hn
  intro g p l e s m args below meth c H locs la C hP hS hl
  exact W.lcmp C.1 C.2.1 hd (k g p l e s m args below meth c H locs la C hP hS hl)
theorem w_i2l {x : Int32} {v : Int64} (hd : decode M.2.1 pc = .ok (.i2l, 1)) (hn : pc + 1 = n') (hv : x.toInt64 = v) (k : Wm M Z n' ls (.long v :: st) mem) : Wm M Z pc ls (.int x :: st) mem := by
  subst hn
  intro g p l e s m args below meth c H locs la C hP hS hl
  exact lv_i2l C.1 C.2.1 hd hv (k g p l e s m args below meth c H locs la C hP hS hl)
theorem w_i2b {x v : Int32} (hd : decode M.2.1 pc = .ok (.i2b, 1)) (hn : pc + 1 = n') (hv : x.toInt8.toInt32 = v) (k : Wm M Z n' ls (.int v :: st) mem) : Wm M Z pc ls (.int x :: st) mem := by
  subst hn
  intro g p l e s m args below meth c H locs la C hP hS hl
  exact lv_i2b C.1 C.2.1 hd hv (k g p l e s m args below meth c H locs la C hP hS hl)
theorem w_i2s {x v : Int32} (hd : decode M.2.1 pc = .ok (.i2s, 1)) (hn : pc + 1 = n') (hv : x.toInt16.toInt32 = v) (k : Wm M Z n' ls (.int v :: st) mem) : Wm M Z pc ls (.int x :: st) mem := by
  subst hn
  intro g p l e s m args below meth c H locs la C hP hS hl
  exact lv_i2s C.1 C.2.1 hd hv (k g p l e s m args below meth c H locs la C hP hS hl)
theorem w_i2c {x v : Int32} (hd : decode M.2.1 pc = .ok (.i2c, 1)) (hn : pc + 1 = n') (hv : (x.toUInt32 % 65536).toInt32 = v) (k : Wm M Z n' ls (.int v :: st) mem) : Wm M Z pc ls (.int x :: st) mem := by
  subst hn
  intro g p l e s m args below meth c H locs la C hP hS hl
  exact lv_i2c C.1 C.2.1 hd hv (k g p l e s m args below meth c H locs la C hP hS hl)
theorem w_dup {v : Value} (hd : decode M.2.1 pc = .ok (.dup, 1)) (hn : pc + 1 = n') (hc : v.category = 1) (k : Wm M Z n' ls (v :: v :: st) mem) : Wm M Z pc ls (v :: st) mem := by
  subst hn
  intro g p l e s m args below meth c H locs la C hP hS hl
  exact lv_dup C.1 C.2.1 hd ((rv_cat g v).trans hc) (k g p l e s m args below meth c H locs la C hP hS hl)
theorem w_pop {v : Value} (hd : decode M.2.1 pc = .ok (.pop, 1)) (hn : pc + 1 = n') (hc : v.category = 1) (k : Wm M Z n' ls (st) mem) : Wm M Z pc ls (v :: st) mem := by
  subst hn
  intro g p l e s m args below meth c H locs la C hP hS hl
  exact lv_pop C.1 C.2.1 hd ((rv_cat g v).trans hc) (k g p l e s m args below meth c H locs la C hP hS hl)
theorem w_dup2 {v w : Value} (hd : decode M.2.1 pc = .ok (.dup2, 1)) (hn : pc + 1 = n') (hc : v.category = 1) (hc2 : w.category = 1) (k : Wm M Z n' ls (v :: w :: v :: w :: st) mem) : Wm M Z pc ls (v :: w :: st) mem := by
  subst hn
  intro g p l e s m args below meth c H locs la C hP hS hl
  exact lv_dup2_11 C.1 C.2.1 hd ((rv_cat g v).trans hc) ((rv_cat g w).trans hc2) (k g p l e s m args below meth c H locs la C hP hS hl)
theorem w_iload_n {q : Fin 4} {i : Nat} {x : Int32} (hd : decode M.2.1 pc = .ok (.iload_n q, 1)) (hn : pc + 1 = n') (hi : (q : Nat) = i) (hx : ls[i]? = some (some (.int x))) (k : Wm M Z n' ls (.int x :: st) mem) : Wm M Z pc ls (st) mem := by
  subst hn
  intro g p l e s m args below meth c H locs la C hP hS hl
  exact lv_iload_n C.1 C.2.1 hd hi (hl.2.2 _ _ hx) (k g p l e s m args below meth c H locs la C hP hS hl)
theorem w_iload {i : Nat} {x : Int32} (hd : decode M.2.1 pc = .ok (.iload i, 2)) (hn : pc + 2 = n') (hx : ls[i]? = some (some (.int x))) (k : Wm M Z n' ls (.int x :: st) mem) : Wm M Z pc ls (st) mem := by
  subst hn
  intro g p l e s m args below meth c H locs la C hP hS hl
  exact lv_iload C.1 C.2.1 hd (hl.2.2 _ _ hx) (k g p l e s m args below meth c H locs la C hP hS hl)
theorem w_lload_n {q : Fin 4} {i : Nat} {x : Int64} (hd : decode M.2.1 pc = .ok (.lload_n q, 1)) (hn : pc + 1 = n') (hi : (q : Nat) = i) (hx : ls[i]? = some (some (.long x))) (k : Wm M Z n' ls (.long x :: st) mem) : Wm M Z pc ls (st) mem := by
  subst hn
  intro g p l e s m args below meth c H locs la C hP hS hl
  exact lv_lload_n C.1 C.2.1 hd hi (hl.2.2 _ _ hx) (k g p l e s m args below meth c H locs la C hP hS hl)
theorem w_lload {i : Nat} {x : Int64} (hd : decode M.2.1 pc = .ok (.lload i, 2)) (hn : pc + 2 = n') (hx : ls[i]? = some (some (.long x))) (k : Wm M Z n' ls (.long x :: st) mem) : Wm M Z pc ls (st) mem := by
  subst hn
  intro g p l e s m args below meth c H locs la C hP hS hl
  exact lv_lload C.1 C.2.1 hd (hl.2.2 _ _ hx) (k g p l e s m args below meth c H locs la C hP hS hl)
theorem w_aload_n {q : Fin 4} {i : Nat} {x : Nat} (hd : decode M.2.1 pc = .ok (.aload_n q, 1)) (hn : pc + 1 = n') (hi : (q : Nat) = i) (hx : ls[i]? = some (some (.ref x))) (k : Wm M Z n' ls (.ref x :: st) mem) : Wm M Z pc ls (st) mem := by
  subst hn
  intro g p l e s m args below meth c H locs la C hP hS hl
  exact lv_aload_n C.1 C.2.1 hd hi (hl.2.2 _ _ hx) (k g p l e s m args below meth c H locs la C hP hS hl)
theorem w_aload {i : Nat} {x : Nat} (hd : decode M.2.1 pc = .ok (.aload i, 2)) (hn : pc + 2 = n') (hx : ls[i]? = some (some (.ref x))) (k : Wm M Z n' ls (.ref x :: st) mem) : Wm M Z pc ls (st) mem := by
  subst hn
  intro g p l e s m args below meth c H locs la C hP hS hl
  exact lv_aload C.1 C.2.1 hd (hl.2.2 _ _ hx) (k g p l e s m args below meth c H locs la C hP hS hl)
theorem w_goto {off : Int} {tgt : Nat} (hd : decode M.2.1 pc = .ok (.goto off, 3)) (ht : (pc : Int) + off = (tgt : Int)) (k : Wm M Z tgt ls st mem) : Wm M Z pc ls st mem := by
  intro g p l e s m args below meth c H locs la C hP hS hl
  exact lv_goto C.1 C.2.1 hd ht (k g p l e s m args below meth c H locs la C hP hS hl)
theorem w_if_eq {x : Int32} {off : Int} {tgt : Nat} (hd : decode M.2.1 pc = .ok (.ifCond .eq off, 3)) (hn : pc + 3 = n') (ht : (pc : Int) + off = (tgt : Int)) (kt : x = 0 → Wm M Z tgt ls st mem) (kf : ¬ x = 0 → Wm M Z n' ls st mem) : Wm M Z pc ls (.int x :: st) mem := by
  subst hn
  intro g p l e s m args below meth c H locs la C hP hS hl
  exact lv_if_eq C.1 C.2.1 hd ht (fun q => kt q g p l e s m args below meth c H locs la C hP hS hl) (fun q => kf q g p l e s m args below meth c H locs la C hP hS hl)
theorem w_icmp_eq {x y : Int32} {off : Int} {tgt : Nat} (hd : decode M.2.1 pc = .ok (.if_icmp .eq off, 3)) (hn : pc + 3 = n') (ht : (pc : Int) + off = (tgt : Int)) (kt : x = y → Wm M Z tgt ls st mem) (kf : ¬ x = y → Wm M Z n' ls st mem) : Wm M Z pc ls (.int y :: .int x :: st) mem := by
  subst hn
  intro g p l e s m args below meth c H locs la C hP hS hl
  exact lv_icmp_eq C.1 C.2.1 hd ht (fun q => kt q g p l e s m args below meth c H locs la C hP hS hl) (fun q => kf q g p l e s m args below meth c H locs la C hP hS hl)
theorem w_if_ne {x : Int32} {off : Int} {tgt : Nat} (hd : decode M.2.1 pc = .ok (.ifCond .ne off, 3)) (hn : pc + 3 = n') (ht : (pc : Int) + off = (tgt : Int)) (kt : ¬ x = 0 → Wm M Z tgt ls st mem) (kf : x = 0 → Wm M Z n' ls st mem) : Wm M Z pc ls (.int x :: st) mem := by
  subst hn
  intro g p l e s m args below meth c H locs la C hP hS hl
  exact lv_if_ne C.1 C.2.1 hd ht (fun q => kt q g p l e s m args below meth c H locs la C hP hS hl) (fun q => kf q g p l e s m args below meth c H locs la C hP hS hl)
theorem w_icmp_ne {x y : Int32} {off : Int} {tgt : Nat} (hd : decode M.2.1 pc = .ok (.if_icmp .ne off, 3)) (hn : pc + 3 = n') (ht : (pc : Int) + off = (tgt : Int)) (kt : ¬ x = y → Wm M Z tgt ls st mem) (kf : x = y → Wm M Z n' ls st mem) : Wm M Z pc ls (.int y :: .int x :: st) mem := by
  subst hn
  intro g p l e s m args below meth c H locs la C hP hS hl
  exact lv_icmp_ne C.1 C.2.1 hd ht (fun q => kt q g p l e s m args below meth c H locs la C hP hS hl) (fun q => kf q g p l e s m args below meth c H locs la C hP hS hl)
theorem w_if_lt {x : Int32} {off : Int} {tgt : Nat} (hd : decode M.2.1 pc = .ok (.ifCond .lt off, 3)) (hn : pc + 3 = n') (ht : (pc : Int) + off = (tgt : Int)) (kt : x < 0 → Wm M Z tgt ls st mem) (kf : ¬ x < 0 → Wm M Z n' ls st mem) : Wm M Z pc ls (.int x :: st) mem := by
  subst hn
  intro g p l e s m args below meth c H locs la C hP hS hl
  exact lv_if_lt C.1 C.2.1 hd ht (fun q => kt q g p l e s m args below meth c H locs la C hP hS hl) (fun q => kf q g p l e s m args below meth c H locs la C hP hS hl)
theorem w_icmp_lt {x y : Int32} {off : Int} {tgt : Nat} (hd : decode M.2.1 pc = .ok (.if_icmp .lt off, 3)) (hn : pc + 3 = n') (ht : (pc : Int) + off = (tgt : Int)) (kt : x < y → Wm M Z tgt ls st mem) (kf : ¬ x < y → Wm M Z n' ls st mem) : Wm M Z pc ls (.int y :: .int x :: st) mem := by
  subst hn
  intro g p l e s m args below meth c H locs la C hP hS hl
  exact lv_icmp_lt C.1 C.2.1 hd ht (fun q => kt q g p l e s m args below meth c H locs la C hP hS hl) (fun q => kf q g p l e s m args below meth c H locs la C hP hS hl)
theorem w_if_ge {x : Int32} {off : Int} {tgt : Nat} (hd : decode M.2.1 pc = .ok (.ifCond .ge off, 3)) (hn : pc + 3 = n') (ht : (pc : Int) + off = (tgt : Int)) (kt : 0 ≤ x → Wm M Z tgt ls st mem) (kf : ¬ 0 ≤ x → Wm M Z n' ls st mem) : Wm M Z pc ls (.int x :: st) mem := by
  subst hn
  intro g p l e s m args below meth c H locs la C hP hS hl
  exact lv_if_ge C.1 C.2.1 hd ht (fun q => kt q g p l e s m args below meth c H locs la C hP hS hl) (fun q => kf q g p l e s m args below meth c H locs la C hP hS hl)
theorem w_icmp_ge {x y : Int32} {off : Int} {tgt : Nat} (hd : decode M.2.1 pc = .ok (.if_icmp .ge off, 3)) (hn : pc + 3 = n') (ht : (pc : Int) + off = (tgt : Int)) (kt : y ≤ x → Wm M Z tgt ls st mem) (kf : ¬ y ≤ x → Wm M Z n' ls st mem) : Wm M Z pc ls (.int y :: .int x :: st) mem := by
  subst hn
  intro g p l e s m args below meth c H locs la C hP hS hl
  exact lv_icmp_ge C.1 C.2.1 hd ht (fun q => kt q g p l e s m args below meth c H locs la C hP hS hl) (fun q => kf q g p l e s m args below meth c H locs la C hP hS hl)
theorem w_if_gt {x : Int32} {off : Int} {tgt : Nat} (hd : decode M.2.1 pc = .ok (.ifCond .gt off, 3)) (hn : pc + 3 = n') (ht : (pc : Int) + off = (tgt : Int)) (kt : 0 < x → Wm M Z tgt ls st mem) (kf : ¬ 0 < x → Wm M Z n' ls st mem) : Wm M Z pc ls (.int x :: st) mem := by
  subst hn
  intro g p l e s m args below meth c H locs la C hP hS hl
  exact lv_if_gt C.1 C.2.1 hd ht (fun q => kt q g p l e s m args below meth c H locs la C hP hS hl) (fun q => kf q g p l e s m args below meth c H locs la C hP hS hl)
theorem w_icmp_gt {x y : Int32} {off : Int} {tgt : Nat} (hd : decode M.2.1 pc = .ok (.if_icmp .gt off, 3)) (hn : pc + 3 = n') (ht : (pc : Int) + off = (tgt : Int)) (kt : y < x → Wm M Z tgt ls st mem) (kf : ¬ y < x → Wm M Z n' ls st mem) : Wm M Z pc ls (.int y :: .int x :: st) mem := by
  subst hn
  intro g p l e s m args below meth c H locs la C hP hS hl
  exact lv_icmp_gt C.1 C.2.1 hd ht (fun q => kt q g p l e s m args below meth c H locs la C hP hS hl) (fun q => kf q g p l e s m args below meth c H locs la C hP hS hl)
theorem w_if_le {x : Int32} {off : Int} {tgt : Nat} (hd : decode M.2.1 pc = .ok (.ifCond .le off, 3)) (hn : pc + 3 = n') (ht : (pc : Int) + off = (tgt : Int)) (kt : x ≤ 0 → Wm M Z tgt ls st mem) (kf : ¬ x ≤ 0 → Wm M Z n' ls st mem) : Wm M Z pc ls (.int x :: st) mem := by
  subst hn
  intro g p l e s m args below meth c H locs la C hP hS hl
  exact lv_if_le C.1 C.2.1 hd ht (fun q => kt q g p l e s m args below meth c H locs la C hP hS hl) (fun q => kf q g p l e s m args below meth c H locs la C hP hS hl)
theorem w_icmp_le {x y : Int32} {off : Int} {tgt : Nat} (hd : decode M.2.1 pc = .ok (.if_icmp .le off, 3)) (hn : pc + 3 = n') (ht : (pc : Int) + off = (tgt : Int)) (kt : x ≤ y → Wm M Z tgt ls st mem) (kf : ¬ x ≤ y → Wm M Z n' ls st mem) : Wm M Z pc ls (.int y :: .int x :: st) mem := by
  subst hn
  intro g p l e s m args below meth c H locs la C hP hS hl
  exact lv_icmp_le C.1 C.2.1 hd ht (fun q => kt q g p l e s m args below meth c H locs la C hP hS hl) (fun q => kf q g p l e s m args below meth c H locs la C hP hS hl)
theorem w_lookup {dflt : Int} {ps : Array (Int × Int)} {len : Nat} {x : Int32} {off : Int} {tgt : Nat} (hd : decode M.2.1 pc = .ok (.lookupswitch dflt ps, len)) (hp : (ps.toList.zip (ps.toList.drop 1)).all (fun (a, next) => a.1 < next.1) = true) (ho : Op.lookupswitch.offset ps.toList dflt x.toInt = off) (ht : (pc : Int) + off = (tgt : Int)) (k : Wm M Z tgt ls st mem) : Wm M Z pc ls (.int x :: st) mem := by
  intro g p l e s m args below meth c H locs la C hP hS hl
  exact lv_lookup C.1 C.2.1 hd hp ho ht (k g p l e s m args below meth c H locs la C hP hS hl)
theorem w_tableOut {dflt lo hi : Int} {offs : Array Int} {len : Nat} {x : Int32} {tgt : Nat} (hd : decode M.2.1 pc = .ok (.tableswitch dflt lo hi offs, len)) (h : x.toInt < lo ∨ hi < x.toInt) (ht : (pc : Int) + dflt = (tgt : Int)) (k : Wm M Z tgt ls st mem) : Wm M Z pc ls (.int x :: st) mem := by
  intro g p l e s m args below meth c H locs la C hP hS hl
  exact lv_tableOut C.1 C.2.1 hd h ht (k g p l e s m args below meth c H locs la C hP hS hl)
theorem w_tableIn {dflt lo hi : Int} {offs : Array Int} {len : Nat} {x : Int32} {off : Int} {tgt : Nat} (hd : decode M.2.1 pc = .ok (.tableswitch dflt lo hi offs, len)) (h1 : ¬ x.toInt < lo) (h2 : ¬ hi < x.toInt) (ho : offs[(x.toInt - lo).toNat]? = some off) (ht : (pc : Int) + off = (tgt : Int)) (k : Wm M Z tgt ls st mem) : Wm M Z pc ls (.int x :: st) mem := by
  intro g p l e s m args below meth c H locs la C hP hS hl
  exact lv_tableIn C.1 C.2.1 hd h1 h2 ho ht (k g p l e s m args below meth c H locs la C hP hS hl)
def okS (ls : List (Option Value)) : Nat → Bool
  | 0 => true
  | j + 1 => match ls[j]? with
    | some (some (.long _)) => false
    | some (some (.double _)) => false
    | _ => true
def pairs (g : GH) (ls : List (Option Value)) : List (Nat × Value) := (List.range ls.length).filterMap (fun i => match ls[i]? with
  | some (some v) => some (i, rv g v)
  | _ => none)
theorem pairs_in {g : GH} {ls : List (Option Value)} {q : Nat × Value} : q ∈ pairs g ls ↔ ∃ v, ls[q.1]? = some (some v) ∧ q.2 = rv g v := by
  unfold pairs
  rw [List.mem_filterMap]
  constructor
  · rintro ⟨i, -, h⟩
    split at h
    · next v hv => cases h; exact ⟨v, hv, rfl⟩
    · cases h
  · rintro ⟨v, hv, h2⟩
    refine ⟨q.1, List.mem_range.mpr (List.getElem?_eq_some_iff.mp hv).1, ?_⟩
    rw [hv]
    show some (q.1, rv g v) = some q
    rw [← h2]
theorem lhas.toHas {g : GH} {la : Array Slot} {n : Nat} {ls : List (Option Value)} (h : lhas g la n ls) : lv_has la n (pairs g ls) := by
  refine ⟨h.1, h.2.1, fun q hq => ?_⟩
  obtain ⟨v, h1, h2⟩ := pairs_in.mp hq
  rw [h2]
  exact h.2.2 _ _ h1
theorem lhas.st1 {g : GH} {la : Array Slot} {n i : Nat} {ls : List (Option Value)} {v : Value} (hk : okS ls i = true) (h : lv_has la n ((i, rv g v) :: (pairs g ls).filter (fun q => !(q.1 == i) && !(q.1 + 1 == i && q.2.category == 2)))) : lhas g la n (ls.set i (some v)) := by
  refine ⟨h.1, h.2.1, fun j w hw => ?_⟩
  by_cases hj : j = i
  · subst hj
    have hlt : j < (ls.set j (some v)).length := (List.getElem?_eq_some_iff.mp hw).1
    rw [List.length_set] at hlt
    rw [List.getElem?_set_self hlt] at hw
    cases hw
    exact h.2.2 (j, rv g v) List.mem_cons_self
  · rw [List.getElem?_set_ne (Ne.symm hj)] at hw
    refine h.2.2 (j, rv g w) (List.mem_cons_of_mem _ (List.mem_filter.mpr ⟨pairs_in.mpr ⟨w, hw, rfl⟩, ?_⟩))
    have h1 : (j == i) = false := by simpa using hj
    simp only [h1, Bool.not_false, Bool.true_and, Bool.not_eq_true', Bool.and_eq_false_iff]
    by_cases h2 : j + 1 = i
    · right
      subst h2
      rw [rv_cat]
      simp only [okS, hw] at hk
      cases w <;> simp_all [Value.category]
    · left
      simpa using h2
theorem lhas.st2 {g : GH} {la : Array Slot} {n i : Nat} {ls : List (Option Value)} {v : Value} (hk : okS ls i = true) (h : lv_has la n ((i, rv g v) :: (pairs g ls).filter (fun q => !(q.1 == i) && (!(q.1 == i + 1) && !(q.1 + 1 == i && q.2.category == 2))))) : lhas g la n ((ls.set i (some v)).set (i + 1) none) := by
  refine ⟨h.1, h.2.1, fun j w hw => ?_⟩
  by_cases hj2 : j = i + 1
  · subst hj2
    have hlt : i + 1 < ((ls.set i (some v)).set (i + 1) none).length := (List.getElem?_eq_some_iff.mp hw).1
    rw [List.length_set] at hlt
    rw [List.getElem?_set_self hlt] at hw
    cases hw
  · rw [List.getElem?_set_ne (Ne.symm hj2)] at hw
    by_cases hj : j = i
    · subst hj
      have hlt : j < (ls.set j (some v)).length := (List.getElem?_eq_some_iff.mp hw).1
      rw [List.length_set] at hlt
      rw [List.getElem?_set_self hlt] at hw
      cases hw
      exact h.2.2 (j, rv g v) List.mem_cons_self
    · rw [List.getElem?_set_ne (Ne.symm hj)] at hw
      refine h.2.2 (j, rv g w) (List.mem_cons_of_mem _ (List.mem_filter.mpr ⟨pairs_in.mpr ⟨w, hw, rfl⟩, ?_⟩))
      have h1 : (j == i) = false := by simpa using hj
      have h3 : (j == i + 1) = false := by simpa using hj2
      simp only [h1, h3, Bool.not_false, Bool.true_and, Bool.not_eq_true', Bool.and_eq_false_iff]
      by_cases h2 : j + 1 = i
      · right
        subst h2
        rw [rv_cat]
        simp only [okS, hw] at hk
        cases w <;> simp_all [Value.category]
      · left
        simpa using h2
theorem w_istore_n {q : Fin 4} {i : Nat} {x : Int32} (hd : decode M.2.1 pc = .ok (.istore_n q, 1)) (hn : pc + 1 = n') (hi : (q : Nat) = i) (hlt : i < M.2.2.1) (hk : okS ls i = true) (hs : ls.set i (some (.int x)) = ls') (k : Wm M Z n' ls' st mem) : Wm M Z pc ls (.int x :: st) mem := by
  subst hn
  subst hs
  intro g p l e s m args below meth c H locs la C hP hS hl
  exact lv_istore_n C.1 C.2.1 hd hi hl.toHas hlt rfl (fun la' h => k g p l e s m args below meth c H locs la' C hP hS (lhas.st1 (v := .int x) hk h))
theorem w_istore {i : Nat} {x : Int32} (hd : decode M.2.1 pc = .ok (.istore i, 2)) (hn : pc + 2 = n') (hlt : i < M.2.2.1) (hk : okS ls i = true) (hs : ls.set i (some (.int x)) = ls') (k : Wm M Z n' ls' st mem) : Wm M Z pc ls (.int x :: st) mem := by
  subst hn
  subst hs
  intro g p l e s m args below meth c H locs la C hP hS hl
  exact lv_istore C.1 C.2.1 hd hl.toHas hlt rfl (fun la' h => k g p l e s m args below meth c H locs la' C hP hS (lhas.st1 (v := .int x) hk h))
theorem w_astore_n {q : Fin 4} {i : Nat} {x : Nat} (hd : decode M.2.1 pc = .ok (.astore_n q, 1)) (hn : pc + 1 = n') (hi : (q : Nat) = i) (hlt : i < M.2.2.1) (hk : okS ls i = true) (hs : ls.set i (some (.ref x)) = ls') (k : Wm M Z n' ls' st mem) : Wm M Z pc ls (.ref x :: st) mem := by
  subst hn
  subst hs
  intro g p l e s m args below meth c H locs la C hP hS hl
  exact lv_astore_n C.1 C.2.1 hd hi hl.toHas hlt rfl (fun la' h => k g p l e s m args below meth c H locs la' C hP hS (lhas.st1 (v := .ref x) hk h))
theorem w_astore {i : Nat} {x : Nat} (hd : decode M.2.1 pc = .ok (.astore i, 2)) (hn : pc + 2 = n') (hlt : i < M.2.2.1) (hk : okS ls i = true) (hs : ls.set i (some (.ref x)) = ls') (k : Wm M Z n' ls' st mem) : Wm M Z pc ls (.ref x :: st) mem := by
  subst hn
  subst hs
  intro g p l e s m args below meth c H locs la C hP hS hl
  exact lv_astore C.1 C.2.1 hd hl.toHas hlt rfl (fun la' h => k g p l e s m args below meth c H locs la' C hP hS (lhas.st1 (v := .ref x) hk h))
theorem w_lstore_n {q : Fin 4} {i : Nat} {x : Int64} (hd : decode M.2.1 pc = .ok (.lstore_n q, 1)) (hn : pc + 1 = n') (hi : (q : Nat) = i) (hlt : i + 1 < M.2.2.1) (hk : okS ls i = true) (hs : (ls.set i (some (.long x))).set (i + 1) none = ls') (k : Wm M Z n' ls' st mem) : Wm M Z pc ls (.long x :: st) mem := by
  subst hn
  subst hs
  intro g p l e s m args below meth c H locs la C hP hS hl
  exact lv_lstore_n C.1 C.2.1 hd hi hl.toHas hlt rfl (fun la' h => k g p l e s m args below meth c H locs la' C hP hS (lhas.st2 (v := .long x) hk h))
theorem w_lstore {i : Nat} {x : Int64} (hd : decode M.2.1 pc = .ok (.lstore i, 2)) (hn : pc + 2 = n') (hlt : i + 1 < M.2.2.1) (hk : okS ls i = true) (hs : (ls.set i (some (.long x))).set (i + 1) none = ls') (k : Wm M Z n' ls' st mem) : Wm M Z pc ls (.long x :: st) mem := by
  subst hn
  subst hs
  intro g p l e s m args below meth c H locs la C hP hS hl
  exact lv_lstore C.1 C.2.1 hd hl.toHas hlt rfl (fun la' h => k g p l e s m args below meth c H locs la' C hP hS (lhas.st2 (v := .long x) hk h))
theorem w_iinc {i : Nat} {n : Int} {x v : Int32} (hd : decode M.2.1 pc = .ok (.iinc i n, 3)) (hn : pc + 3 = n') (hx : ls[i]? = some (some (.int x))) (hv : x + Int32.ofInt n = v) (hlt : i < M.2.2.1) (hk : okS ls i = true) (hs : ls.set i (some (.int v)) = ls') (k : Wm M Z n' ls' st mem) : Wm M Z pc ls st mem := by
  subst hn
  subst hs
  intro g p l e s m args below meth c H locs la C hP hS hl
  obtain ⟨q, hq⟩ := List.getElem?_of_mem (pairs_in (g := g) (q := (i, .int x)) |>.mpr ⟨.int x, hx, rfl⟩)
  exact lv_iinc C.1 C.2.1 hd hl.toHas hq hv hlt rfl (fun la' h => k g p l e s m args below meth c H locs la' C hP hS (lhas.st1 (v := .int v) hk h))
theorem tb_at {w : Cond} {Z : ZT} {g : GH} {p : Program} {s : State} {m : MethodId} {args : Array Value} {meth : Method} {c : Code} (C : Ctx M Z g p s m args meth c) (h : w ∈ tb) : w.before args s = true := C.2.2.2.2.2.1 w h
theorem w_ldc {idx : Nat} {v : Int32} (hd : decode M.2.1 pc = .ok (.ldc idx, 2)) (hn : pc + 2 = n') (hc : Cond.constant M.1.cls idx v ∈ tb) (k : Wm M Z n' ls (.int v :: st) mem) : Wm M Z pc ls st mem := by
  subst hn
  intro g p l e s m args below meth c H locs la C hP hS hl
  exact lv_ldc C.1 C.2.1 C.2.2.2.2.1 (tb_at C hc) hd (k g p l e s m args below meth c H locs la C hP hS hl)
theorem w_ldcw {idx : Nat} {v : Int32} (hd : decode M.2.1 pc = .ok (.ldc_w idx, 3)) (hn : pc + 3 = n') (hc : Cond.constant M.1.cls idx v ∈ tb) (k : Wm M Z n' ls (.int v :: st) mem) : Wm M Z pc ls st mem := by
  subst hn
  intro g p l e s m args below meth c H locs la C hP hS hl
  exact lv_ldcw C.1 C.2.1 C.2.2.2.2.1 (tb_at C hc) hd (k g p l e s m args below meth c H locs la C hP hS hl)
theorem w_ldc2 {idx : Nat} {v : Int64} (hd : decode M.2.1 pc = .ok (.ldc2_w idx, 3)) (hn : pc + 3 = n') (hc : Cond.constantLong M.1.cls idx v ∈ tb) (k : Wm M Z n' ls (.long v :: st) mem) : Wm M Z pc ls st mem := by
  subst hn
  intro g p l e s m args below meth c H locs la C hP hS hl
  exact lv_ldc2 C.1 C.2.1 C.2.2.2.2.1 (tb_at C hc) hd (k g p l e s m args below meth c H locs la C hP hS hl)
end ROWS
end
section
/-! rows that read and write the memory, statics and texts -/
def clC (ci : Nat) : vw_C := vwCl.getD ci (RX0, TX0, 7)
def tyC (ci : Nat) : Nat → FieldType := match ci with
  | 0 => tyX0
  | 1 => tyX1
  | 2 => tyX2
  | 3 => tyX3
  | 4 => tyX4
  | 5 => tyX5
  | _ => tyX6
theorem cl_at {ci : Nat} (h : ci < 7) : vwCl[ci]? = some (clC ci) := by
  match ci, h with
  | 0, _ => rfl
  | 1, _ => rfl
  | 2, _ => rfl
  | 3, _ => rfl
  | 4, _ => rfl
  | 5, _ => rfl
  | 6, _ => rfl
theorem ws_0 : ∀ w ∈ u_ws RX0 TX0 7, w ∈ tb := by decide +kernel
theorem ws_1 : ∀ w ∈ u_ws RX1 TX1 6, w ∈ tb := by decide +kernel
theorem ws_2 : ∀ w ∈ u_ws RX2 TX2 3, w ∈ tb := by decide +kernel
theorem ws_3 : ∀ w ∈ u_ws RX3 TX3 6, w ∈ tb := by decide +kernel
theorem ws_4 : ∀ w ∈ u_ws RX4 TX4 2, w ∈ tb := by decide +kernel
theorem ws_5 : ∀ w ∈ u_ws RX5 TX5 8, w ∈ tb := by decide +kernel
theorem ws_6 : ∀ w ∈ u_ws RX6 TX6 20, w ∈ tb := by decide +kernel
theorem cl_ws {ci : Nat} (h : ci < 7) : ∀ w ∈ u_ws (clC ci).1 (clC ci).2.1 (clC ci).2.2, w ∈ tb := by
  match ci, h with
  | 0, _ => exact ws_0
  | 1, _ => exact ws_1
  | 2, _ => exact ws_2
  | 3, _ => exact ws_3
  | 4, _ => exact ws_4
  | 5, _ => exact ws_5
  | 6, _ => exact ws_6
theorem cl_ty {ci : Nat} (h : ci < 7) : ∀ k, k < (clC ci).2.2 → parseFieldDescriptor ((clC ci).2.1 k).2.2.1 = some (tyC ci k) := by
  match ci, h with
  | 0, _ => exact tyX0_ok
  | 1, _ => exact tyX1_ok
  | 2, _ => exact tyX2_ok
  | 3, _ => exact tyX3_ok
  | 4, _ => exact tyX4_ok
  | 5, _ => exact tyX5_ok
  | 6, _ => exact tyX6_ok
theorem cl_nm {ci : Nat} (h : ci < 7) : ∀ a, a < (clC ci).2.2 → ∀ b, b < (clC ci).2.2 → a ≠ b → ((clC ci).2.1 a).2.1 ≠ ((clC ci).2.1 b).2.1 := by
  match ci, h with
  | 0, _ => exact nmX0
  | 1, _ => exact nmX1
  | 2, _ => exact nmX2
  | 3, _ => exact nmX3
  | 4, _ => exact nmX4
  | 5, _ => exact nmX5
  | 6, _ => exact nmX6
theorem obj_len {ci k : Nat} {f : Nat → Int32} (h : ci < 7) : (objM ci k f).length = (clC ci).2.2 := by
  match ci, h with
  | 0, _ => rfl
  | 1, _ => rfl
  | 2, _ => rfl
  | 3, _ => rfl
  | 4, _ => rfl
  | 5, _ => rfl
  | 6, _ => rfl
set_option maxHeartbeats 4000000 in
theorem obj_set {ci k j : Nat} {f : Nat → Int32} {x y : Int32} (hc : ci < 7) (h : (objM ci k f)[j]? = some (.int y)) : objM ci k (upd f j x) = (objM ci k f).set j (.int x) := by
  have hj : j < 20 := by
    have h1 := (List.getElem?_eq_some_iff.mp h).1
    rw [obj_len hc] at h1
    have h2 : (clC ci).2.2 ≤ 20 := by
      match ci, hc with
      | 0, _ => decide
      | 1, _ => decide
      | 2, _ => decide
      | 3, _ => decide
      | 4, _ => decide
      | 5, _ => decide
      | 6, _ => decide
    omega
  match ci, hc with
  | 0, _ => rcases j with _ | _ | _ | _ | _ | _ | _ | j <;> first | rfl | (simp [objM] at h)
  | 1, _ => rcases j with _ | _ | _ | _ | _ | _ | j <;> first | rfl | (simp [objM] at h)
  | 2, _ => rcases j with _ | _ | _ | j <;> first | rfl | (simp [objM] at h)
  | 3, _ => rcases j with _ | _ | _ | _ | _ | _ | j <;> first | rfl | (simp [objM] at h)
  | 4, _ => rcases j with _ | _ | j <;> first | rfl | (simp [objM] at h)
  | 5, _ => rcases j with _ | _ | _ | _ | _ | _ | _ | _ | j <;> first | rfl | (simp [objM] at h)
  | 6, _ => rcases j with _ | _ | _ | _ | _ | _ | _ | _ | _ | _ | _ | _ | _ | _ | _ | _ | _ | _ | _ | _ | j <;> first | rfl | (simp [objM] at h) | omega
def FLk (own : String) (idx ci j : Nat) : Prop := Cond.fieldLink own idx ((clC ci).2.1 j).1 ((clC ci).2.1 j).2.1 ((clC ci).2.1 j).2.2.1 ∈ tb ∨ Cond.fieldLinkNest own idx ((clC ci).2.1 j).1 ((clC ci).2.1 j).2.1 ((clC ci).2.1 j).2.2.1 "SheafVotes" ∈ nests
def SLk (own : String) (idx t : Nat) : Prop := Cond.fieldLink own idx "SheafVotes" (stN t) "[I" ∈ tb ∨ Cond.fieldLinkNest own idx "SheafVotes" (stN t) "[I" "SheafVotes" ∈ nests
theorem al_le (k : Nat) : al k ≤ 201 := by
  unfold al
  rcases Nat.lt_or_ge k 62 with h | h
  · have : ∀ k, k < 62 → alL.getD k 0 ≤ 201 := by decide +kernel
    exact this k h
  · rw [List.getD_eq_getElem?_getD, List.getElem?_eq_none (by rw [show alL.length = 62 by decide +kernel]; exact h)]
    exact Nat.zero_le _
section MEM
variable {M : MT} {Z : ZT} {pc n' : Nat} {ls ls' : List (Option Value)} {st : List Value} {mem : Mem}
theorem he_obj {g : GH} {k ci : Nat} (hk : kd k = ci) (hci : ci < 7) : (cellsM g mem)[k]? = some (g.1 k, .inr (ci, (objM ci k (mem k)).map (rv g))) := by
  rw [cells_at (kd_lt hk (by omega)), ent_obj hk hci]
theorem he_int {g : GH} {k : Nat} (hk : kd k = 10) : (cellsM g mem)[k]? = some (g.1 k, .inl (g.2.2 0, (al k, .inl (mem k)))) := by
  rw [cells_at (kd_lt hk (by omega)), ent_int hk]
theorem he_byte {g : GH} {k : Nat} (hk : kd k = 11) : (cellsM g mem)[k]? = some (g.1 k, .inl (g.2.2 1, (al k, .inl (mem k)))) := by
  rw [cells_at (kd_lt hk (by omega)), ent_byte hk]
theorem nest_at {w : Cond} {g : GH} {p : Program} {s : State} {m : MethodId} {args : Array Value} {meth : Method} {c : Code} (C : Ctx M Z g p s m args meth c) (h : w ∈ nests) : w.before args s = true := va_Nw.use (nest_tab (nest_in h)) (C.2.2.2.2.2.2.2.2.1.1 w h)
theorem w_get {k ci j idx : Nat} {v : Value} (hd : decode M.2.1 pc = .ok (.getfield idx, 3)) (hn : pc + 3 = n') (hL : FLk M.1.cls idx ci j) (hci : ci < 7) (hj : j < (clC ci).2.2) (hk : kd k = ci) (hv : (objM ci k (mem k))[j]? = some v) (kk : Wm M Z n' ls (v :: st) mem) : Wm M Z pc ls (.ref k :: st) mem := by
  subst hn
  intro g p l e s m args below meth c H locs la C hP hS hl
  have hv' : ((objM ci k (mem k)).map (rv g))[j]? = some (rv g v) := by rw [List.getElem?_map, hv]; rfl
  rcases hL with hL | hL
  · exact va_get (D := g.2.1) (ci := ci) (C := (clC ci).1) (T := (clC ci).2.1) (N := (clC ci).2.2) C.1 C.2.1 C.2.2.2.2.2.1 (cl_ws hci) C.2.2.2.2.1 C.2.2.2.2.2.2.2.1.1 hP k (he_obj hk hci) (cl_at hci) j hj (tb_at C hL) (fun _ h9 => h9) hv' hd (kk g p l e s m args below meth c H locs la C hP hS hl)
  · exact va_getN (D := g.2.1) (ci := ci) (C := (clC ci).1) (T := (clC ci).2.1) (N := (clC ci).2.2) C.1 C.2.1 C.2.2.2.2.2.1 (cl_ws hci) C.2.2.2.2.1 C.2.2.2.2.2.2.2.1.1 hP k (he_obj hk hci) (cl_at hci) j hj (nest_at C hL) (fun _ h9 => h9) hv' hd (kk g p l e s m args below meth c H locs la C hP hS hl)
theorem w_putT {k ci j idx : Nat} {x y : Int32} (hd : decode M.2.1 pc = .ok (.putfield idx, 3)) (hn : pc + 3 = n') (hL : FLk M.1.cls idx ci j) (hci : ci < 7) (hj : j < (clC ci).2.2) (hfin : ((clC ci).2.1 j).2.2.2 = false) (hnar : narrow (tyC ci j) (.int x) = .int x) (hfit : fits (tyC ci j) (.int x) = true) (hk : kd k = ci) (hv : (objM ci k (mem k))[j]? = some (.int y)) (kk : Wm M Z n' ls st (up2 mem k j x)) : Wm M Z pc ls (.int x :: .ref k :: st) mem := by
  subst hn
  intro g p l e s m args below meth c H locs la C hP hS hl
  have hset : (cellsM g mem).set k (g.1 k, .inr (ci, ((objM ci k (mem k)).map (rv g)).set j (.int x))) = cellsM g (up2 mem k j x) := by
    refine cells_set ?_ (fun a ha => up2_ne mem j x ha)
    rw [up2_same, ent_obj hk hci, obj_set hci hv, List.map_set]
    rfl
  have hlen : j < ((objM ci k (mem k)).map (rv g)).length := by rw [List.length_map, obj_len hci]; exact hj
  rcases hL with hL | hL
  · exact va_put (D := g.2.1) (ci := ci) (v := .int x) (ty := tyC ci j) (C := (clC ci).1) (T := (clC ci).2.1) (N := (clC ci).2.2) C.1 C.2.1 C.2.2.2.2.2.1 (cl_ws hci) (tyC ci) (cl_ty hci) (cl_nm hci) C.2.2.2.2.1 C.2.2.2.2.2.2.2.1.1 hP (cells_D C.2.2.2.2.2.2.2.1.2) hS k (he_obj hk hci) (cl_at hci) j hj (tb_at C hL) (fun _ h9 => h9) hfin (cl_ty hci j hj) hnar hfit hlen hd (fun H1 locs1 hP1 hD1 hS1 => kk g p l e s m args below meth c H1 locs1 la C (by rw [hset] at hP1; exact hP1) hS1 hl)
  · exact va_putN (D := g.2.1) (ci := ci) (v := .int x) (ty := tyC ci j) (C := (clC ci).1) (T := (clC ci).2.1) (N := (clC ci).2.2) C.1 C.2.1 C.2.2.2.2.2.1 (cl_ws hci) (tyC ci) (cl_ty hci) (cl_nm hci) C.2.2.2.2.1 C.2.2.2.2.2.2.2.1.1 hP (cells_D C.2.2.2.2.2.2.2.1.2) hS k (he_obj hk hci) (cl_at hci) j hj (nest_at C hL) (fun _ h9 => h9) hfin (cl_ty hci j hj) hnar hfit hlen hd (fun H1 locs1 hP1 hD1 hS1 => kk g p l e s m args below meth c H1 locs1 la C (by rw [hset] at hP1; exact hP1) hS1 hl)
/-- an int field gets an int -/
theorem w_put {k ci j idx : Nat} {x y : Int32} (hd : decode M.2.1 pc = .ok (.putfield idx, 3)) (hn : pc + 3 = n') (hL : FLk M.1.cls idx ci j) (hci : ci < 7) (hj : j < (clC ci).2.2) (hfin : ((clC ci).2.1 j).2.2.2 = false) (hty : tyC ci j = .int) (hk : kd k = ci) (hv : (objM ci k (mem k))[j]? = some (.int y)) (kk : Wm M Z n' ls st (up2 mem k j x)) : Wm M Z pc ls (.int x :: .ref k :: st) mem :=
  w_putT hd hn hL hci hj hfin (by rw [hty]; rfl) (by rw [hty]; rfl) hk hv kk
theorem w_iald {k n : Nat} {i : Int32} (hd : decode M.2.1 pc = .ok (.iaload, 1)) (hn : pc + 1 = n') (hk : kd k = 10) (hi : i = nI n) (hlt : n < al k) (kk : Wm M Z n' ls (.int (mem k n) :: st) mem) : Wm M Z pc ls (.int i :: .ref k :: st) mem := by
  subst hn
  subst hi
  intro g p l e s m args below meth c H locs la C hP hS hl
  have hb : n < 2 ^ 31 := by have := al_le k; omega
  refine va_iald (D := g.2.1) C.1 C.2.1 C.2.2.2.2.2.2.2.1.1 hP k 0 (he_int hk) rfl (vp_in_nI hlt (by have := al_le k; omega)) hd ?_
  rw [nI_clamp hb]
  exact kk g p l e s m args below meth c H locs la C hP hS hl
theorem w_iast {k n : Nat} {i x : Int32} (hd : decode M.2.1 pc = .ok (.iastore, 1)) (hn : pc + 1 = n') (hk : kd k = 10) (hi : i = nI n) (hlt : n < al k) (kk : Wm M Z n' ls st (up2 mem k n x)) : Wm M Z pc ls (.int x :: .int i :: .ref k :: st) mem := by
  subst hn
  subst hi
  intro g p l e s m args below meth c H locs la C hP hS hl
  have hb : n < 2 ^ 31 := by have := al_le k; omega
  refine va_iast (D := g.2.1) C.1 C.2.1 C.2.2.2.2.2.2.2.1.1 hP (cells_D C.2.2.2.2.2.2.2.1.2) hS k 0 (he_int hk) rfl (vp_in_nI hlt (by have := al_le k; omega)) hd (fun H1 locs1 hP1 hD1 hS1 => ?_)
  rw [nI_clamp hb, cells_set (mem' := up2 mem k n x) (by rw [up2_same, ent_int hk]) (fun a ha => up2_ne mem n x ha)] at hP1
  exact kk g p l e s m args below meth c H1 locs1 la C hP1 hS1 hl
theorem w_bald {k n : Nat} {i : Int32} (hd : decode M.2.1 pc = .ok (.baload, 1)) (hn : pc + 1 = n') (hk : kd k = 11) (hi : i = nI n) (hlt : n < al k) (kk : Wm M Z n' ls (.int (mem k n) :: st) mem) : Wm M Z pc ls (.int i :: .ref k :: st) mem := by
  subst hn
  subst hi
  intro g p l e s m args below meth c H locs la C hP hS hl
  have hb : n < 2 ^ 31 := by have := al_le k; omega
  refine va_bald (D := g.2.1) C.1 C.2.1 C.2.2.2.2.2.2.2.1.1 hP k 1 (he_byte hk) rfl (vp_in_nI hlt (by have := al_le k; omega)) hd ?_
  rw [nI_clamp hb]
  exact kk g p l e s m args below meth c H locs la C hP hS hl
theorem w_bast {k n : Nat} {i x x' : Int32} (hd : decode M.2.1 pc = .ok (.bastore, 1)) (hn : pc + 1 = n') (hk : kd k = 11) (hi : i = nI n) (hlt : n < al k) (hx : x.toInt8.toInt32 = x') (kk : Wm M Z n' ls st (up2 mem k n x')) : Wm M Z pc ls (.int x :: .int i :: .ref k :: st) mem := by
  subst hn
  subst hi
  subst hx
  intro g p l e s m args below meth c H locs la C hP hS hl
  have hb : n < 2 ^ 31 := by have := al_le k; omega
  refine va_bast (D := g.2.1) C.1 C.2.1 C.2.2.2.2.2.2.2.1.1 hP (cells_D C.2.2.2.2.2.2.2.1.2) hS k 1 (he_byte hk) rfl (vp_in_nI hlt (by have := al_le k; omega)) hd (fun H1 locs1 hP1 hD1 hS1 => ?_)
  rw [nI_clamp hb, vp_nar_byte, cells_set (mem' := up2 mem k n x.toInt8.toInt32) (by rw [up2_same, ent_byte hk]) (fun a ha => up2_ne mem n _ ha)] at hP1
  exact kk g p l e s m args below meth c H1 locs1 la C hP1 hS1 hl
theorem w_alen {k n : Nat} (hd : decode M.2.1 pc = .ok (.arraylength, 1)) (hn : pc + 1 = n') (hk : kd k = 10) (ha : al k = n) (kk : Wm M Z n' ls (.int (nI n) :: st) mem) : Wm M Z pc ls (.ref k :: st) mem := by
  subst hn
  subst ha
  intro g p l e s m args below meth c H locs la C hP hS hl
  exact va_alen (D := g.2.1) (v := nI (al k)) C.1 C.2.1 C.2.2.2.2.2.2.2.1.1 hP k 0 (he_int hk) rfl rfl hd (kk g p l e s m args below meth c H locs la C hP hS hl)
theorem w_aaldF {k n : Nat} {i : Int32} (hd : decode M.2.1 pc = .ok (.aaload, 1)) (hn : pc + 1 = n') (hk : kd k = 12) (hi : i = nI n) (hlt : n < 8) (kk : Wm M Z n' ls (.ref (k + 1 + n) :: st) mem) : Wm M Z pc ls (.int i :: .ref k :: st) mem := by
  subst hn
  subst hi
  intro g p l e s m args below meth c H locs la C hP hS hl
  have he : (cellsM g mem)[k]? = some (g.1 k, .inl (g.2.2 2, (8, .inr (.inr (.inr (.inr (fun i => some (g.1 (k + 1 + i))))))))) := by rw [cells_at (kd_lt hk (by omega)), ent_rows hk]
  refine va_aldq (D := g.2.1) C.1 C.2.1 C.2.2.2.2.2.2.2.1.1 hP k 2 he rfl (vp_in_nI hlt (by omega)) hd ?_
  rw [nI_clamp (by omega)]
  exact kk g p l e s m args below meth c H locs la C hP hS hl
theorem w_aaldS {k n : Nat} {i : Int32} (hd : decode M.2.1 pc = .ok (.aaload, 1)) (hn : pc + 1 = n') (hk : kd k = 13) (hi : i = nI n) (hlt : n < 4) (kk : Wm M Z n' ls (.ref (k + 1 + 2 * n) :: st) mem) : Wm M Z pc ls (.int i :: .ref k :: st) mem := by
  subst hn
  subst hi
  intro g p l e s m args below meth c H locs la C hP hS hl
  have he : (cellsM g mem)[k]? = some (g.1 k, .inl (g.2.2 3, (4, .inr (.inr (.inr (.inr (fun i => some (g.1 (k + 1 + 2 * i))))))))) := by rw [cells_at (kd_lt hk (by omega)), ent_sheets hk]
  refine va_aldq (D := g.2.1) C.1 C.2.1 C.2.2.2.2.2.2.2.1.1 hP k 3 he rfl (vp_in_nI hlt (by omega)) hd ?_
  rw [nI_clamp (by omega)]
  exact kk g p l e s m args below meth c H locs la C hP hS hl
/-! statics -/
theorem w_gets {t idx : Nat} (hd : decode M.2.1 pc = .ok (.getstatic idx, 3)) (hn : pc + 3 = n') (hL : SLk M.1.cls idx t) (ht : t < 4) (kk : Wm M Z n' ls (.ref (100 + t) :: st) mem) : Wm M Z pc ls st mem := by
  subst hn
  intro g p l e s m args below meth c H locs la C hP hS hl
  have hZ := (C.2.2.2.2.2.2.2.2.1.2.1 t ht).1
  rcases hL with hL | hL
  · exact va_gets C.1 C.2.1 hZ hS C.2.2.2.2.1 (tb_at C hL) (fun _ h9 => h9) hd (kk g p l e s m args below meth c H locs la C hP hS hl)
  · exact va_getsN C.1 C.2.1 hZ hS C.2.2.2.2.1 (nest_at C hL) (fun _ h9 => h9) hd (kk g p l e s m args below meth c H locs la C hP hS hl)
theorem w_ialdS {t n : Nat} {i : Int32} (hd : decode M.2.1 pc = .ok (.iaload, 1)) (hn : pc + 1 = n') (ht : t < 4) (hi : i = nI n) (hlt : n < (stL t).length) (kk : Wm M Z n' ls (.int ((stL t).getD n 0) :: st) mem) : Wm M Z pc ls (.int i :: .ref (100 + t) :: st) mem := by
  subst hn
  subst hi
  intro g p l e s m args below meth c H locs la C hP hS hl
  have h7 : (stL t).length ≤ 7 := by
    match t, ht with
    | 0, _ => decide
    | 1, _ => decide
    | 2, _ => decide
    | 3, _ => decide
  refine va_ti C.1 C.2.1 (C.2.2.2.2.2.2.2.2.1.2.1 t ht).2 hS (vp_in_nI hlt (by omega)) (v := .int ((stL t).getD n 0)) (by rw [nI_clamp (by omega)]) hd (kk g p l e s m args below meth c H locs la C hP hS hl)
theorem w_alenT {t n : Nat} (hd : decode M.2.1 pc = .ok (.arraylength, 1)) (hn : pc + 1 = n') (ht : t < 4) (ha : (stL t).length = n) (kk : Wm M Z n' ls (.int (nI n) :: st) mem) : Wm M Z pc ls (.ref (100 + t) :: st) mem := by
  subst hn
  subst ha
  intro g p l e s m args below meth c H locs la C hP hS hl
  exact va_tlen C.1 C.2.1 (C.2.2.2.2.2.2.2.2.1.2.1 t ht).2 hS rfl hd (kk g p l e s m args below meth c H locs la C hP hS hl)
theorem w_getsZ {idx : Nat} (hd : decode M.2.1 pc = .ok (.getstatic idx, 3)) (hn : pc + 3 = n') (hL : Cond.fieldLink M.1.cls idx "java/lang/String" "COMPACT_STRINGS" "Z" ∈ tb) (kk : Wm M Z n' ls (.int 1 :: st) mem) : Wm M Z pc ls st mem := by
  subst hn
  intro g p l e s m args below meth c H locs la C hP hS hl
  exact va_gets C.1 C.2.1 C.2.2.2.2.2.2.2.2.1.2.2.2.2.1 hS C.2.2.2.2.1 (tb_at C hL) (fun _ h9 => h9) hd (kk g p l e s m args below meth c H locs la C hP hS hl)
theorem w_getsQ {idx : Nat} (hd : decode M.2.1 pc = .ok (.getstatic idx, 3)) (hn : pc + 3 = n') (hL : Cond.fieldLink M.1.cls idx "jdk/internal/util/Preconditions" "SIOOBE_FORMATTER" "Ljava/util/function/BiFunction;" ∈ tb) (kk : ∀ v : Value, v = .null ∨ v = .ref 999 → Wm M Z n' ls (v :: st) mem) : Wm M Z pc ls st mem := by
  subst hn
  intro g p l e s m args below meth c H locs la C hP hS hl
  rcases C.2.2.2.2.2.2.2.2.1.2.2.2.2.2 with hZ | hZ
  · exact va_gets C.1 C.2.1 hZ hS C.2.2.2.2.1 (tb_at C hL) (fun _ h9 => h9) hd (kk .null (Or.inl rfl) g p l e s m args below meth c H locs la C hP hS hl)
  · exact va_gets C.1 C.2.1 hZ hS C.2.2.2.2.1 (tb_at C hL) (fun _ h9 => h9) hd (kk (.ref 999) (Or.inr rfl) g p l e s m args below meth c H locs la C hP hS hl)
/-! texts -/
theorem w_ldcS {i idx : Nat} (hd : decode M.2.1 pc = .ok (.ldc idx, 2)) (hn : pc + 2 = n') (hi : i < 12) (hx : strK.getD i 0 = idx) (hc : M.1.cls = "SheafVotes$TextReader") (kk : Wm M Z n' ls (.ref (200 + i) :: st) mem) : Wm M Z pc ls st mem := by
  subst hn
  subst hx
  intro g p l e s m args below meth c H locs la C hP hS hl
  exact va_ldcS C.1 C.2.1 (by rw [← hc]; exact C.2.2.2.2.1) (C.2.2.2.2.2.2.2.2.1.2.2.1 i hi) hd (kk g p l e s m args below meth c H locs la C hP hS hl)
theorem w_strV {i idx : Nat} (hd : decode M.2.1 pc = .ok (.getfield idx, 3)) (hn : pc + 3 = n') (hL : Cond.fieldLink M.1.cls idx "java/lang/String" "value" "[B" ∈ tb) (hi : i < 12) (kk : Wm M Z n' ls (.ref (300 + i) :: st) mem) : Wm M Z pc ls (.ref (200 + i) :: st) mem := by
  subst hn
  intro g p l e s m args below meth c H locs la C hP hS hl
  exact vk_getf C.1 C.2.1 (C.2.2.2.2.2.2.2.2.1.2.2.2.1.1 i hi).2.2.1 hS C.2.2.2.2.1 (tb_at C hL) (fun _ h9 => h9) hd (kk g p l e s m args below meth c H locs la C hP hS hl)
theorem w_strC {i idx : Nat} (hd : decode M.2.1 pc = .ok (.getfield idx, 3)) (hn : pc + 3 = n') (hL : Cond.fieldLink M.1.cls idx "java/lang/String" "coder" "B" ∈ tb) (hi : i < 12) (kk : Wm M Z n' ls (.int 0 :: st) mem) : Wm M Z pc ls (.ref (200 + i) :: st) mem := by
  subst hn
  intro g p l e s m args below meth c H locs la C hP hS hl
  exact vk_getf C.1 C.2.1 (C.2.2.2.2.2.2.2.2.1.2.2.2.1.1 i hi).2.1 hS C.2.2.2.2.1 (tb_at C hL) (fun _ h9 => h9) hd (kk g p l e s m args below meth c H locs la C hP hS hl)
theorem w_baldS {i n : Nat} {j : Int32} (hd : decode M.2.1 pc = .ok (.baload, 1)) (hn : pc + 1 = n') (hi : i < 12) (hj : j = nI n) (hlt : n < strN.getD i 0) (kk : Wm M Z n' ls (.int ((strB.getD i []).getD n 0) :: st) mem) : Wm M Z pc ls (.int j :: .ref (300 + i) :: st) mem := by
  subst hn
  subst hj
  intro g p l e s m args below meth c H locs la C hP hS hl
  have h7 : strN.getD i 0 ≤ 7 := by
    have : ∀ i, i < 12 → strN.getD i 0 ≤ 7 := by decide +kernel
    exact this i hi
  exact va_tb C.1 C.2.1 (C.2.2.2.2.2.2.2.2.1.2.2.2.1.1 i hi).2.2.2 hS (vp_in_nI hlt (by omega)) (v := .int ((strB.getD i []).getD n 0)) (by rw [nI_clamp (by omega)]) hd (kk g p l e s m args below meth c H locs la C hP hS hl)
theorem w_alenB {i n : Nat} (hd : decode M.2.1 pc = .ok (.arraylength, 1)) (hn : pc + 1 = n') (hi : i < 12) (ha : strN.getD i 0 = n) (kk : Wm M Z n' ls (.int (nI n) :: st) mem) : Wm M Z pc ls (.ref (300 + i) :: st) mem := by
  subst hn
  subst ha
  intro g p l e s m args below meth c H locs la C hP hS hl
  exact va_tlen C.1 C.2.1 (C.2.2.2.2.2.2.2.2.1.2.2.2.1.1 i hi).2.2.2 hS rfl hd (kk g p l e s m args below meth c H locs la C hP hS hl)
end MEM
end
section
/-! calls -/
def MOK (M : MT) (n : Nat) : Prop := Cond.code M.1 M.2.1 M.2.2.1 M.2.2.2.1 ∈ tb ∧ Cond.initialized M.1.cls ∈ tb ∧ (M.1.cls ≠ "java/lang/invoke/MethodHandle" ∧ M.1.cls ≠ "java/lang/invoke/VarHandle" ∧ (parseMethodDescriptor M.1.desc).map (fun d => d.parameters.length) = some n)
def MLk (own : String) (idx : Nat) (M : MT) : Prop := Cond.methodLink own idx M.1 ∈ tb ∨ Cond.methodLinkNest own idx M.1 "SheafVotes" ∈ nests
def Rok (Z : ZT) (M : MT) : Prop := (M.2.2.2.2 + 1 ≤ Z.1.frames ∧ 8 + (M.2.2.1 + 11) + 40 * M.2.2.2.2 ≤ Z.1.locals) ∧ Z.2.1 ≤ Z.1.cells ∧ Z.2.2.1 ≤ Z.1.slots
theorem good_tb {M : MT} {n : Nat} (h : MOK M n) : GoodIn tb (wsM M) := by
  intro w hw
  rcases List.mem_cons.mp hw with e | e
  · subst e
    exact ⟨h.1, good_of_word (List.mem_filter.mp h.1).2⟩
  · exact ⟨e, good_of_word (List.mem_filter.mp e).2⟩
theorem blind_Inv {g : GH} {mem : Mem} {av : List Value} : FrameBlind (va_Pc av (fun U => Inv g mem U)) := by
  intro a U f mk h
  obtain ⟨h1, h2, h3, h4⟩ := h
  exact ⟨h1, ⟨va_K.moved (u := U) (U := U.calling f mk a) (Vm.Alike.refl U.vm) h2.1, h2.2⟩, h3, h4.same rfl rfl⟩
section CALLS
variable {p : Program} {l : Launch} {e : Env} {R : Room} {s : State} {m : MethodId} {args : Array Value} {below : List Frame} {meth : Method} {c : Code} {H : Heap} {locs : List Loc} {cells slots : Nat} {Q : State → Prop}
theorem call_fin {g : GH} {Post : Option Value → Mem → Prop} {pc : Nat} {la : Array Slot} {st0 rest : List Value} {a : Array Value} (hr : va_Run p l e R s m args below meth c H locs cells slots 0 0 (F0 m pc la st0) rest (Qm g Post a) (Ag g)) (hS : va_S (Ag g) s.heap H locs)
    (kk : ∀ (r : Option Value) (mem' : Mem) (H1 : Heap) (locs1 : List Loc), Post r mem' → va_P g.2.1 vwCl (cellsM g mem') H1 → va_S (Ag g) s.heap H1 locs1 → W p l e R s m args below meth c H1 locs1 cells slots Q (F0 m (pc + 3) la ((r.map (rv g)).toList ++ rest))) : W p l e R s m args below meth c H locs cells slots Q (F0 m pc la st0) := by
  intro T hT X
  obtain ⟨v, st₀, t, T', L, h0, X', hL, e1, e2, ⟨⟨r, mem', hv, hp, hb⟩, hz, hk⟩, st⟩ := hr T hT X
  cases hv
  rw [h0] at hz hk
  obtain ⟨t2, a1, b1⟩ := kk r mem' T'.heap (locs ++ L) hp (by rw [e1]; exact hb)
    ⟨Nat.le_trans hS.1 (by rw [e1]; exact hz), fun q h1 h2 => by rw [e1, hk q (Nat.lt_of_lt_of_le h1 hS.1) h2]; exact hS.2.1 q h1 h2, fun q hq => by
      rcases List.mem_append.mp hq with h | h
      · exact hS.2.2 q h
      · exact hL q h⟩ T' rfl X'
  exact ⟨t2, st t2 a1, b1⟩
theorem pre_Inv {M : MT} {Z : ZT} {g : GH} {mem : Mem} {av : List Value} (C : Ctx M Z g p s m args meth c) (hP : va_P g.2.1 vwCl (cellsM g mem) H) (hS : va_S (Ag g) s.heap H locs) : ∀ U : State, U.heap = H → s.WarmedH U.vm → va_Pc av (fun U => Inv g mem U) av.toArray U := by
  intro U hU hW
  exact ⟨rfl, ⟨va_K.moved hW.alike C.2.2.2.2.2.2.2.1.1, C.2.2.2.2.2.2.2.1.2⟩, by rw [hU]; exact hP, C.2.2.2.2.2.2.2.2.1.go hS hU hW⟩
end CALLS
section CALLM
variable {M M' : MT} {Z : ZT} {pc n' idx n : Nat} {ls : List (Option Value)} {st rest as : List Value} {mem : Mem} {Post : Option Value → Mem → Prop}
theorem cat_map (g : GH) (l : List Value) : ((l.map (rv g)).map fun v => v.category).sum = (l.map fun v => v.category).sum := by
  rw [List.map_map]
  congr 1
  apply List.map_congr_left
  intro v _
  exact rv_cat g v
theorem w_callS (hd : decode M.2.1 pc = .ok (.invokestatic idx, 3)) (hn : pc + 3 = n') (hL : MLk M.1.cls idx M') (hM : MOK M' n) (hst : Cond.static M'.1 ∈ tb) (hR : Rok Z M') (hlen : as.length = n) (hcat : (rest.map fun v => v.category).sum ≤ 8) (hsk : st = as.reverse ++ rest) (hC : Cn M' as mem Post) (k : ∀ (r : Option Value) (mem' : Mem), Post r mem' → Wm M Z n' ls (r.toList ++ rest) mem') : Wm M Z pc ls st mem := by
  subst hn
  intro g p l e s m args below meth c H locs la C hP hS hl
  have hcs := C.2.2.2.2.2.1
  have fin := fun (hr : va_Run p l e Z.1 s m args below meth c H locs Z.2.1 Z.2.2.1 0 0 (F0 m pc la (st.map (rv g))) (rest.map (rv g)) (Qm g Post (as.map (rv g)).toArray) (Ag g)) => call_fin (Q := Z.2.2.2.2 g s args below) hr hS (fun r mem' H1 locs1 hp hP1 hS1 => by
    have := k r mem' hp g p l e s m args below meth c H1 locs1 la C hP1 hS1 hl
    rw [List.map_append] at this
    cases r <;> exact this)
  refine fin ?_
  rcases hL with hL | hL
  · exact va_runS (As := as.map (rv g)) (rest := rest.map (rv g)) ⟨C.1, C.2.1, C.2.2.2.1, C.2.2.2.2.1, hcs⟩ (hC l g) ⟨callB_of n hcs (good_tb hM) rfl rfl rfl (hcs _ hM.2.1) (hcs _ hL) hM.2.2 hR.1, hcs _ hst⟩ ⟨blind_Inv, pre_Inv C hP hS⟩ rfl (by rw [List.length_map]; exact hlen) hl.1 (by rw [hsk, List.map_append, List.map_reverse]) (lv_room (by rw [cat_map]; exact hcat)) hd hR.2
  · exact va_runSN (As := as.map (rv g)) (rest := rest.map (rv g)) (Ts := tb) ⟨C.1, C.2.1, C.2.2.2.1, C.2.2.2.2.1, hcs⟩ (hC l g) ⟨va_cnB n hcs (good_tb hM) rfl rfl rfl (C.2.2.2.2.2.2.2.2.1.1 _ hL) (hcs _ hM.2.1) hM.2.2 hR.1, hcs _ hst, trivial⟩ ⟨blind_Inv, pre_Inv C hP hS⟩ rfl (by rw [List.length_map]; exact hlen) hl.1 (by rw [hsk, List.map_append, List.map_reverse]) (lv_room (by rw [cat_map]; exact hcat)) hd hR.2
def VOK (M : MT) : Prop := Cond.instanceMethod M.1 ∈ tb ∧ Cond.selects M.1.cls M.1 M.1 ∈ tb
theorem w_callVr {b : Nat} (hrecv : ∀ (g : GH) (s : State) (H : Heap) (locs : List Loc), Gd g s → Stt g s s.heap → va_P g.2.1 vwCl (cellsM g mem) H → va_S (Ag g) s.heap H locs → ∃ cellB : Cell, H[g.1 b]? = some cellB ∧ cellB.vm.isStatics = false ∧ s.vm.findClass M'.1.cls = some cellB.cls) (hd : decode M.2.1 pc = .ok (.invokevirtual idx, 3)) (hn : pc + 3 = n') (hL : Cond.methodLink M.1.cls idx M'.1 ∈ tb) (hM : MOK M' n) (hV : VOK M') (hR : Rok Z M') (hlen : as.length = n) (hcat : (rest.map fun v => v.category).sum ≤ 8) (hsk : st = as.reverse ++ .ref b :: rest) (hC : Cn M' (.ref b :: as) mem Post) (k : ∀ (r : Option Value) (mem' : Mem), Post r mem' → Wm M Z n' ls (r.toList ++ rest) mem') : Wm M Z pc ls st mem := by
  subst hn
  intro g p l e s m args below meth c H locs la C hP hS hl
  have hcs := C.2.2.2.2.2.1
  have fin := fun (hr : va_Run p l e Z.1 s m args below meth c H locs Z.2.1 Z.2.2.1 0 0 (F0 m pc la (st.map (rv g))) (rest.map (rv g)) (Qm g Post (Value.ref (g.1 b) :: as.map (rv g)).toArray) (Ag g)) => call_fin (Q := Z.2.2.2.2 g s args below) hr hS (fun r mem' H1 locs1 hp hP1 hS1 => by
    have := k r mem' hp g p l e s m args below meth c H1 locs1 la C hP1 hS1 hl
    rw [List.map_append] at this
    cases r <;> exact this)
  refine fin ?_
  exact va_runV (C := M'.1.cls) (b := g.1 b) (As := as.map (rv g)) (rest := rest.map (rv g)) ⟨C.1, C.2.1, C.2.2.2.1, C.2.2.2.2.1, hcs⟩ (hC l g) ⟨callB_of n hcs (good_tb hM) rfl rfl rfl (hcs _ hM.2.1) (hcs _ hL) hM.2.2 hR.1, hcs _ hV.1, hcs _ hV.2⟩ ⟨blind_Inv, hrecv g s H locs C.2.2.2.2.2.2.2.1 C.2.2.2.2.2.2.2.2.1 hP hS, pre_Inv (av := Value.ref (g.1 b) :: as.map (rv g)) C hP hS⟩ rfl (by rw [List.length_map]; exact hlen) hl.1 (by rw [hsk, List.map_append, List.map_reverse]; rfl) (lv_room (by rw [cat_map]; exact hcat)) hd hR.2
theorem recv_obj {b ci : Nat} {C : String} (hk : kd b = ci) (hci : ci < 7) (hc : (clC ci).1 = C) : ∀ (g : GH) (s : State) (H : Heap) (locs : List Loc), Gd g s → Stt g s s.heap → va_P g.2.1 vwCl (cellsM g mem) H → va_S (Ag g) s.heap H locs → ∃ cellB : Cell, H[g.1 b]? = some cellB ∧ cellB.vm.isStatics = false ∧ s.vm.findClass C = some cellB.cls := by
  intro g s H locs hG hT hP hS
  subst hc
  exact va_recv hG.1 hP (cl_at hci) (he_obj hk hci)
theorem recv_str {i : Nat} (hi : i < 12) : ∀ (g : GH) (s : State) (H : Heap) (locs : List Loc), Gd g s → Stt g s s.heap → va_P g.2.1 vwCl (cellsM g mem) H → va_S (Ag g) s.heap H locs → ∃ cellB : Cell, H[g.1 (200 + i)]? = some cellB ∧ cellB.vm.isStatics = false ∧ s.vm.findClass "java/lang/String" = some cellB.cls := by
  intro g s H locs hG hT hP hS
  exact vk_recv (adK := fun i => g.1 (200 + i)) hT.2.2.2.1 hi hS
theorem w_callV {b ci : Nat} (hd : decode M.2.1 pc = .ok (.invokevirtual idx, 3)) (hn : pc + 3 = n') (hL : Cond.methodLink M.1.cls idx M'.1 ∈ tb) (hM : MOK M' n) (hV : VOK M') (hR : Rok Z M') (hlen : as.length = n) (hcat : (rest.map fun v => v.category).sum ≤ 8) (hk : kd b = ci) (hci : ci < 7) (hc : (clC ci).1 = M'.1.cls) (hsk : st = as.reverse ++ .ref b :: rest) (hC : Cn M' (.ref b :: as) mem Post) (k : ∀ (r : Option Value) (mem' : Mem), Post r mem' → Wm M Z n' ls (r.toList ++ rest) mem') : Wm M Z pc ls st mem :=
  w_callVr (recv_obj hk hci hc) hd hn hL hM hV hR hlen hcat hsk hC k
theorem w_callT {i : Nat} (hi : i < 12) (hc : M'.1.cls = "java/lang/String") (hd : decode M.2.1 pc = .ok (.invokevirtual idx, 3)) (hn : pc + 3 = n') (hL : Cond.methodLink M.1.cls idx M'.1 ∈ tb) (hM : MOK M' n) (hV : VOK M') (hR : Rok Z M') (hlen : as.length = n) (hcat : (rest.map fun v => v.category).sum ≤ 8) (hsk : st = as.reverse ++ .ref (200 + i) :: rest) (hC : Cn M' (.ref (200 + i) :: as) mem Post) (k : ∀ (r : Option Value) (mem' : Mem), Post r mem' → Wm M Z n' ls (r.toList ++ rest) mem') : Wm M Z pc ls st mem :=
  w_callVr (by rw [hc]; exact recv_str hi) hd hn hL hM hV hR hlen hcat hsk hC k
/-- a contract's end may be weakened -/
theorem Cn.mono {Post2 : Option Value → Mem → Prop} (h : Cn M as mem Post) (hp : ∀ r m, Post r m → Post2 r m) : Cn M as mem Post2 := by
  intro l g p e ha hc hk s m args below hf happ hP hT
  obtain ⟨t, o, h1, h2, h3, ⟨⟨⟨r, mem', q1, q2, q3⟩, q4⟩, q5⟩⟩ := h l g p e ha hc hk s m args below hf happ hP hT
  exact ⟨t, o, h1, h2, h3, ⟨⟨⟨r, mem', q1, hp _ _ q2, q3⟩, q4⟩, q5⟩⟩
end CALLM
section MATH
variable {M : MT} {Z : ZT} {pc n' idx : Nat} {ls : List (Option Value)} {st : List Value} {mem : Mem}
def maxI (x y : Int32) : Int32 := if x < y then y else x
def minI (x y : Int32) : Int32 := if y < x then y else x
def absI (x : Int32) : Int32 := if 0 ≤ x then x else 0 - x
def Rmath (Z : ZT) (st : List Value) : Prop := 1 ≤ Z.1.frames ∧ (st.map fun v => v.category).sum + 13 ≤ Z.1.locals ∧ Z.2.1 ≤ Z.1.cells ∧ Z.2.2.1 ≤ Z.1.slots
theorem mm_st : Cond.static Lib.Math.max.name ∈ tb := by decide +kernel
theorem mm_in : Cond.initialized "java/lang/Math" ∈ tb := by decide +kernel
theorem mm_co : Cond.code Lib.Math.max.name Lib.Math.max.code 2 (some .int) ∈ tb := by decide +kernel
theorem mn_st : Cond.static Lib.Math.min.name ∈ tb := by decide +kernel
theorem mn_co : Cond.code Lib.Math.min.name Lib.Math.min.code 2 (some .int) ∈ tb := by decide +kernel
theorem mb_st : Cond.static Lib.Math.abs.name ∈ tb := by decide +kernel
theorem mb_co : Cond.code Lib.Math.abs.name Lib.Math.abs.code 1 (some .int) ∈ tb := by decide +kernel
theorem w_max {x y : Int32} (hd : decode M.2.1 pc = .ok (.invokestatic idx, 3)) (hn : pc + 3 = n') (hL : Cond.methodLink M.1.cls idx Lib.Math.max.name ∈ tb) (hR : Rmath Z st) (k : Wm M Z n' ls (.int (maxI x y) :: st) mem) : Wm M Z pc ls (.int y :: .int x :: st) mem := by
  subst hn
  intro g p l e s m args below meth c H locs la C hP hS hl
  exact va_mmax C.1 C.2.1 (C.2.2.2.1.trans hl.1.symm) C.2.2.2.2.1 (tb_at C hL) (tb_at C mm_st) (tb_at C mm_in) (tb_at C mm_co) hR.1 (by rw [cat_map]; exact hR.2.1) hR.2.2.1 hR.2.2.2 hd (k g p l e s m args below meth c H locs la C hP hS hl)
theorem w_min {x y : Int32} (hd : decode M.2.1 pc = .ok (.invokestatic idx, 3)) (hn : pc + 3 = n') (hL : Cond.methodLink M.1.cls idx Lib.Math.min.name ∈ tb) (hR : Rmath Z st) (k : Wm M Z n' ls (.int (minI x y) :: st) mem) : Wm M Z pc ls (.int y :: .int x :: st) mem := by
  subst hn
  intro g p l e s m args below meth c H locs la C hP hS hl
  exact va_mmin C.1 C.2.1 (C.2.2.2.1.trans hl.1.symm) C.2.2.2.2.1 (tb_at C hL) (tb_at C mn_st) (tb_at C mm_in) (tb_at C mn_co) hR.1 (by rw [cat_map]; exact hR.2.1) hR.2.2.1 hR.2.2.2 hd (k g p l e s m args below meth c H locs la C hP hS hl)
theorem w_abs {x : Int32} (hd : decode M.2.1 pc = .ok (.invokestatic idx, 3)) (hn : pc + 3 = n') (hL : Cond.methodLink M.1.cls idx Lib.Math.abs.name ∈ tb) (hR : Rmath Z st) (k : Wm M Z n' ls (.int (absI x) :: st) mem) : Wm M Z pc ls (.int x :: st) mem := by
  subst hn
  intro g p l e s m args below meth c H locs la C hP hS hl
  exact va_mabs C.1 C.2.1 (C.2.2.2.1.trans hl.1.symm) C.2.2.2.2.1 (tb_at C hL) (tb_at C mb_st) (tb_at C mm_in) (tb_at C mb_co) hR.1 (by rw [cat_map]; exact hR.2.1) hR.2.2.1 hR.2.2.2 hd (k g p l e s m args below meth c H locs la C hP hS hl)
theorem ac_na : Cond.native arraycopyName ∈ lw_tbl := by decide +kernel
theorem ac_na2 : Cond.native arraycopyName ∈ tb := by decide +kernel
theorem ac_st : Cond.static arraycopyName ∈ tb := by decide +kernel
theorem ac_in : Cond.initialized "java/lang/System" ∈ tb := by decide +kernel
def Rcopy (Z : ZT) (st : List Value) : Prop := 1 ≤ Z.1.frames ∧ (st.map fun v => v.category).sum + (nativeFrameWords "java/lang/System" "arraycopy" 5 + 11) ≤ Z.1.locals
theorem w_copy {k0 k1 a b n : Nat} {sp dp q : Int32} (hd : decode M.2.1 pc = .ok (.invokestatic idx, 3)) (hn : pc + 3 = n') (hL : Cond.methodLink M.1.cls idx arraycopyName ∈ tb) (hR : Rcopy Z st) (h0 : kd k0 = 10) (h1 : kd k1 = 10) (hsp : sp = nI a) (hdp : dp = nI b) (hq : q = nI n) (ha : a + n ≤ al k0) (hb : b + n ≤ al k1) (k : Wm M Z n' ls st (upR mem k1 (va_cpy (mem k0) (mem k1) a b n))) : Wm M Z pc ls (.int q :: .int dp :: .ref k1 :: .int sp :: .ref k0 :: st) mem := by
  subst hn
  subst hsp
  subst hdp
  subst hq
  intro g p l e s m args below meth c H locs la C hP hS hl
  have z0 := al_le k0
  have z1 := al_le k1
  refine va_copyi (D := g.2.1) (ty := .int) C.1 C.2.1 (C.2.2.2.1.trans hl.1.symm) C.2.2.2.2.1 (tb_at C hL) (tb_at C ac_na2) (tb_at C ac_st) (tb_at C ac_in) C.2.2.2.2.2.2.2.1.1 hP (cells_D C.2.2.2.2.2.2.2.1.2) hS k0 k1 0 0 (he_int h0) (he_int h1) rfl rfl rfl (nI_pos (by omega)) (nI_pos (by omega)) (nI_pos (by omega)) (by rw [nI_clamp (by omega), nI_clamp (by omega)]; exact ha) (by rw [nI_clamp (by omega), nI_clamp (by omega)]; exact hb) (fun i _ => rfl) hR.1 (by rw [cat_map]; exact hR.2) hd (fun H1 locs1 hP1 hD1 hS1 => ?_)
  rw [nI_clamp (show a < 2 ^ 31 by omega), nI_clamp (show b < 2 ^ 31 by omega), nI_clamp (show n < 2 ^ 31 by omega), cells_set (mem' := upR mem k1 (va_cpy (mem k0) (mem k1) a b n)) (by simp only [upR, if_true]; rw [ent_int h1]) (fun q hq => by simp only [upR, if_neg hq])] at hP1
  exact k g p l e s m args below meth c H1 locs1 la C hP1 hS1 hl
end MATH
end
section
/-! the methods: name, code, locals, answer, how deep it calls; what the tables say of each, by place -/
theorem in_RL : Cond.initialized RL ∈ tb := List.mem_filter.mpr ⟨List.mem_of_getElem? (i := 56) (by decide +kernel), by decide +kernel⟩
theorem in_RX5 : Cond.initialized RX5 ∈ tb := List.mem_filter.mpr ⟨List.mem_of_getElem? (i := 57) (by decide +kernel), by decide +kernel⟩
theorem in_RX1 : Cond.initialized RX1 ∈ tb := List.mem_filter.mpr ⟨List.mem_of_getElem? (i := 58) (by decide +kernel), by decide +kernel⟩
theorem in_RX0 : Cond.initialized RX0 ∈ tb := List.mem_filter.mpr ⟨List.mem_of_getElem? (i := 59) (by decide +kernel), by decide +kernel⟩
theorem in_RX3 : Cond.initialized RX3 ∈ tb := List.mem_filter.mpr ⟨List.mem_of_getElem? (i := 60) (by decide +kernel), by decide +kernel⟩
theorem in_RX4 : Cond.initialized RX4 ∈ tb := List.mem_filter.mpr ⟨List.mem_of_getElem? (i := 61) (by decide +kernel), by decide +kernel⟩
theorem in_RX2 : Cond.initialized RX2 ∈ tb := List.mem_filter.mpr ⟨List.mem_of_getElem? (i := 62) (by decide +kernel), by decide +kernel⟩
theorem in_RX6 : Cond.initialized RX6 ∈ tb := List.mem_filter.mpr ⟨List.mem_of_getElem? (i := 63) (by decide +kernel), by decide +kernel⟩
theorem in_RJ9 : Cond.initialized RJ9 ∈ tb := List.mem_filter.mpr ⟨List.mem_of_getElem? (i := 64) (by decide +kernel), by decide +kernel⟩
theorem in_RJ10 : Cond.initialized RJ10 ∈ tb := List.mem_filter.mpr ⟨List.mem_of_getElem? (i := 65) (by decide +kernel), by decide +kernel⟩
theorem in_RJ6 : Cond.initialized RJ6 ∈ tb := List.mem_filter.mpr ⟨List.mem_of_getElem? (i := 66) (by decide +kernel), by decide +kernel⟩
theorem in_RJ0 : Cond.initialized RJ0 ∈ tb := List.mem_filter.mpr ⟨List.mem_of_getElem? (i := 67) (by decide +kernel), by decide +kernel⟩
theorem in_RJ1 : Cond.initialized RJ1 ∈ tb := List.mem_filter.mpr ⟨List.mem_of_getElem? (i := 68) (by decide +kernel), by decide +kernel⟩
theorem in_RJ3 : Cond.initialized RJ3 ∈ tb := List.mem_filter.mpr ⟨List.mem_of_getElem? (i := 69) (by decide +kernel), by decide +kernel⟩
theorem in_RJ2 : Cond.initialized RJ2 ∈ tb := List.mem_filter.mpr ⟨List.mem_of_getElem? (i := 70) (by decide +kernel), by decide +kernel⟩
def mX0_mayBe : MT := (yX0_mayBe, cX0_mayBe, 2, some .boolean, 1)
theorem okX0_mayBe : MOK mX0_mayBe 2 := ⟨List.mem_filter.mpr ⟨List.mem_of_getElem? (i := 253) (by decide +kernel), by decide +kernel⟩, in_RX0, by decide +kernel⟩
theorem stX0_mayBe : Cond.static mX0_mayBe.1 ∈ tb := List.mem_filter.mpr ⟨List.mem_of_getElem? (i := 252) (by decide +kernel), by decide +kernel⟩
def mX0_begin : MT := (yX0_begin, cX0_begin, 3, none, 0)
theorem okX0_begin : MOK mX0_begin 2 := ⟨List.mem_filter.mpr ⟨List.mem_of_getElem? (i := 270) (by decide +kernel), by decide +kernel⟩, in_RX0, by decide +kernel⟩
theorem voX0_begin : VOK mX0_begin := ⟨List.mem_filter.mpr ⟨List.mem_of_getElem? (i := 268) (by decide +kernel), by decide +kernel⟩, List.mem_filter.mpr ⟨List.mem_of_getElem? (i := 269) (by decide +kernel), by decide +kernel⟩⟩
def mX0_becomes : MT := (yX0_becomes, cX0_becomes, 2, none, 0)
theorem okX0_becomes : MOK mX0_becomes 1 := ⟨List.mem_filter.mpr ⟨List.mem_of_getElem? (i := 445) (by decide +kernel), by decide +kernel⟩, in_RX0, by decide +kernel⟩
theorem voX0_becomes : VOK mX0_becomes := ⟨List.mem_filter.mpr ⟨List.mem_of_getElem? (i := 443) (by decide +kernel), by decide +kernel⟩, List.mem_filter.mpr ⟨List.mem_of_getElem? (i := 444) (by decide +kernel), by decide +kernel⟩⟩
def mX0_told : MT := (yX0_told, cX0_told, 2, some .int, 0)
theorem okX0_told : MOK mX0_told 1 := ⟨List.mem_filter.mpr ⟨List.mem_of_getElem? (i := 307) (by decide +kernel), by decide +kernel⟩, in_RX0, by decide +kernel⟩
theorem voX0_told : VOK mX0_told := ⟨List.mem_filter.mpr ⟨List.mem_of_getElem? (i := 305) (by decide +kernel), by decide +kernel⟩, List.mem_filter.mpr ⟨List.mem_of_getElem? (i := 306) (by decide +kernel), by decide +kernel⟩⟩
def mX0_alter : MT := (yX0_alter, cX0_alter, 3, none, 0)
theorem okX0_alter : MOK mX0_alter 2 := ⟨List.mem_filter.mpr ⟨List.mem_of_getElem? (i := 315) (by decide +kernel), by decide +kernel⟩, in_RX0, by decide +kernel⟩
theorem voX0_alter : VOK mX0_alter := ⟨List.mem_filter.mpr ⟨List.mem_of_getElem? (i := 313) (by decide +kernel), by decide +kernel⟩, List.mem_filter.mpr ⟨List.mem_of_getElem? (i := 314) (by decide +kernel), by decide +kernel⟩⟩
def mX0_isOfKind : MT := (yX0_isOfKind, cX0_isOfKind, 4, some .boolean, 0)
theorem okX0_isOfKind : MOK mX0_isOfKind 1 := ⟨List.mem_filter.mpr ⟨List.mem_of_getElem? (i := 729) (by decide +kernel), by decide +kernel⟩, in_RX0, by decide +kernel⟩
theorem voX0_isOfKind : VOK mX0_isOfKind := ⟨List.mem_filter.mpr ⟨List.mem_of_getElem? (i := 727) (by decide +kernel), by decide +kernel⟩, List.mem_filter.mpr ⟨List.mem_of_getElem? (i := 728) (by decide +kernel), by decide +kernel⟩⟩
def mX0_reapsOf : MT := (yX0_reapsOf, cX0_reapsOf, 7, some .int, 1)
theorem okX0_reapsOf : MOK mX0_reapsOf 2 := ⟨List.mem_filter.mpr ⟨List.mem_of_getElem? (i := 283) (by decide +kernel), by decide +kernel⟩, in_RX0, by decide +kernel⟩
theorem voX0_reapsOf : VOK mX0_reapsOf := ⟨List.mem_filter.mpr ⟨List.mem_of_getElem? (i := 281) (by decide +kernel), by decide +kernel⟩, List.mem_filter.mpr ⟨List.mem_of_getElem? (i := 282) (by decide +kernel), by decide +kernel⟩⟩
def mX0_daysIn : MT := (yX0_daysIn, cX0_daysIn, 10, some .int, 2)
theorem okX0_daysIn : MOK mX0_daysIn 1 := ⟨List.mem_filter.mpr ⟨List.mem_of_getElem? (i := 290) (by decide +kernel), by decide +kernel⟩, in_RX0, by decide +kernel⟩
theorem voX0_daysIn : VOK mX0_daysIn := ⟨List.mem_filter.mpr ⟨List.mem_of_getElem? (i := 288) (by decide +kernel), by decide +kernel⟩, List.mem_filter.mpr ⟨List.mem_of_getElem? (i := 289) (by decide +kernel), by decide +kernel⟩⟩
def mX0_leftBehind : MT := (yX0_leftBehind, cX0_leftBehind, 11, some .int, 2)
theorem okX0_leftBehind : MOK mX0_leftBehind 2 := ⟨List.mem_filter.mpr ⟨List.mem_of_getElem? (i := 323) (by decide +kernel), by decide +kernel⟩, in_RX0, by decide +kernel⟩
theorem voX0_leftBehind : VOK mX0_leftBehind := ⟨List.mem_filter.mpr ⟨List.mem_of_getElem? (i := 321) (by decide +kernel), by decide +kernel⟩, List.mem_filter.mpr ⟨List.mem_of_getElem? (i := 322) (by decide +kernel), by decide +kernel⟩⟩
def mX0_daysDownTo : MT := (yX0_daysDownTo, cX0_daysDownTo, 3, some .int, 0)
theorem okX0_daysDownTo : MOK mX0_daysDownTo 3 := ⟨List.mem_filter.mpr ⟨List.mem_of_getElem? (i := 296) (by decide +kernel), by decide +kernel⟩, in_RX0, by decide +kernel⟩
theorem stX0_daysDownTo : Cond.static mX0_daysDownTo.1 ∈ tb := List.mem_filter.mpr ⟨List.mem_of_getElem? (i := 295) (by decide +kernel), by decide +kernel⟩
def mX0_tells : MT := (yX0_tells, cX0_tells, 1, some .int, 1)
theorem okX0_tells : MOK mX0_tells 0 := ⟨List.mem_filter.mpr ⟨List.mem_of_getElem? (i := 300) (by decide +kernel), by decide +kernel⟩, in_RX0, by decide +kernel⟩
theorem voX0_tells : VOK mX0_tells := ⟨List.mem_filter.mpr ⟨List.mem_of_getElem? (i := 298) (by decide +kernel), by decide +kernel⟩, List.mem_filter.mpr ⟨List.mem_of_getElem? (i := 299) (by decide +kernel), by decide +kernel⟩⟩
def mX0_hasTheSheaf : MT := (yX0_hasTheSheaf, cX0_hasTheSheaf, 1, none, 1)
theorem okX0_hasTheSheaf : MOK mX0_hasTheSheaf 0 := ⟨List.mem_filter.mpr ⟨List.mem_of_getElem? (i := 399) (by decide +kernel), by decide +kernel⟩, in_RX0, by decide +kernel⟩
theorem voX0_hasTheSheaf : VOK mX0_hasTheSheaf := ⟨List.mem_filter.mpr ⟨List.mem_of_getElem? (i := 397) (by decide +kernel), by decide +kernel⟩, List.mem_filter.mpr ⟨List.mem_of_getElem? (i := 398) (by decide +kernel), by decide +kernel⟩⟩
def mX0_losesHand : MT := (yX0_losesHand, cX0_losesHand, 1, none, 1)
theorem okX0_losesHand : MOK mX0_losesHand 0 := ⟨List.mem_filter.mpr ⟨List.mem_of_getElem? (i := 404) (by decide +kernel), by decide +kernel⟩, in_RX0, by decide +kernel⟩
theorem voX0_losesHand : VOK mX0_losesHand := ⟨List.mem_filter.mpr ⟨List.mem_of_getElem? (i := 402) (by decide +kernel), by decide +kernel⟩, List.mem_filter.mpr ⟨List.mem_of_getElem? (i := 403) (by decide +kernel), by decide +kernel⟩⟩
def mX0_heeds : MT := (yX0_heeds, cX0_heeds, 2, none, 1)
theorem okX0_heeds : MOK mX0_heeds 1 := ⟨List.mem_filter.mpr ⟨List.mem_of_getElem? (i := 408) (by decide +kernel), by decide +kernel⟩, in_RX0, by decide +kernel⟩
theorem voX0_heeds : VOK mX0_heeds := ⟨List.mem_filter.mpr ⟨List.mem_of_getElem? (i := 406) (by decide +kernel), by decide +kernel⟩, List.mem_filter.mpr ⟨List.mem_of_getElem? (i := 407) (by decide +kernel), by decide +kernel⟩⟩
def mX1_becomes : MT := (yX1_becomes, cX1_becomes, 3, none, 1)
theorem okX1_becomes : MOK mX1_becomes 1 := ⟨List.mem_filter.mpr ⟨List.mem_of_getElem? (i := 438) (by decide +kernel), by decide +kernel⟩, in_RX1, by decide +kernel⟩
theorem voX1_becomes : VOK mX1_becomes := ⟨List.mem_filter.mpr ⟨List.mem_of_getElem? (i := 436) (by decide +kernel), by decide +kernel⟩, List.mem_filter.mpr ⟨List.mem_of_getElem? (i := 437) (by decide +kernel), by decide +kernel⟩⟩
def mX1_hasFarm : MT := (yX1_hasFarm, cX1_hasFarm, 2, some .boolean, 1)
theorem okX1_hasFarm : MOK mX1_hasFarm 1 := ⟨List.mem_filter.mpr ⟨List.mem_of_getElem? (i := 278) (by decide +kernel), by decide +kernel⟩, in_RX1, by decide +kernel⟩
theorem voX1_hasFarm : VOK mX1_hasFarm := ⟨List.mem_filter.mpr ⟨List.mem_of_getElem? (i := 276) (by decide +kernel), by decide +kernel⟩, List.mem_filter.mpr ⟨List.mem_of_getElem? (i := 277) (by decide +kernel), by decide +kernel⟩⟩
def mX1_isFull : MT := (yX1_isFull, cX1_isFull, 1, some .boolean, 0)
theorem okX1_isFull : MOK mX1_isFull 0 := ⟨List.mem_filter.mpr ⟨List.mem_of_getElem? (i := 262) (by decide +kernel), by decide +kernel⟩, in_RX1, by decide +kernel⟩
theorem voX1_isFull : VOK mX1_isFull := ⟨List.mem_filter.mpr ⟨List.mem_of_getElem? (i := 260) (by decide +kernel), by decide +kernel⟩, List.mem_filter.mpr ⟨List.mem_of_getElem? (i := 261) (by decide +kernel), by decide +kernel⟩⟩
def mX1_addFarm : MT := (yX1_addFarm, cX1_addFarm, 4, some .int, 1)
theorem okX1_addFarm : MOK mX1_addFarm 2 := ⟨List.mem_filter.mpr ⟨List.mem_of_getElem? (i := 266) (by decide +kernel), by decide +kernel⟩, in_RX1, by decide +kernel⟩
theorem voX1_addFarm : VOK mX1_addFarm := ⟨List.mem_filter.mpr ⟨List.mem_of_getElem? (i := 264) (by decide +kernel), by decide +kernel⟩, List.mem_filter.mpr ⟨List.mem_of_getElem? (i := 265) (by decide +kernel), by decide +kernel⟩⟩
def mX1_mostDays : MT := (yX1_mostDays, cX1_mostDays, 3, some .int, 3)
theorem okX1_mostDays : MOK mX1_mostDays 0 := ⟨List.mem_filter.mpr ⟨List.mem_of_getElem? (i := 353) (by decide +kernel), by decide +kernel⟩, in_RX1, by decide +kernel⟩
theorem voX1_mostDays : VOK mX1_mostDays := ⟨List.mem_filter.mpr ⟨List.mem_of_getElem? (i := 351) (by decide +kernel), by decide +kernel⟩, List.mem_filter.mpr ⟨List.mem_of_getElem? (i := 352) (by decide +kernel), by decide +kernel⟩⟩
def mX1_latest : MT := (yX1_latest, cX1_latest, 1, some .int, 4)
theorem okX1_latest : MOK mX1_latest 0 := ⟨List.mem_filter.mpr ⟨List.mem_of_getElem? (i := 331) (by decide +kernel), by decide +kernel⟩, in_RX1, by decide +kernel⟩
theorem voX1_latest : VOK mX1_latest := ⟨List.mem_filter.mpr ⟨List.mem_of_getElem? (i := 329) (by decide +kernel), by decide +kernel⟩, List.mem_filter.mpr ⟨List.mem_of_getElem? (i := 330) (by decide +kernel), by decide +kernel⟩⟩
def mX1_latestBelow : MT := (yX1_latestBelow, cX1_latestBelow, 6, some .int, 3)
theorem okX1_latestBelow : MOK mX1_latestBelow 1 := ⟨List.mem_filter.mpr ⟨List.mem_of_getElem? (i := 336) (by decide +kernel), by decide +kernel⟩, in_RX1, by decide +kernel⟩
theorem voX1_latestBelow : VOK mX1_latestBelow := ⟨List.mem_filter.mpr ⟨List.mem_of_getElem? (i := 334) (by decide +kernel), by decide +kernel⟩, List.mem_filter.mpr ⟨List.mem_of_getElem? (i := 335) (by decide +kernel), by decide +kernel⟩⟩
def mX1_earliest : MT := (yX1_earliest, cX1_earliest, 5, some .int, 3)
theorem okX1_earliest : MOK mX1_earliest 0 := ⟨List.mem_filter.mpr ⟨List.mem_of_getElem? (i := 345) (by decide +kernel), by decide +kernel⟩, in_RX1, by decide +kernel⟩
theorem voX1_earliest : VOK mX1_earliest := ⟨List.mem_filter.mpr ⟨List.mem_of_getElem? (i := 343) (by decide +kernel), by decide +kernel⟩, List.mem_filter.mpr ⟨List.mem_of_getElem? (i := 344) (by decide +kernel), by decide +kernel⟩⟩
def mX1_isLatest : MT := (yX1_isLatest, cX1_isLatest, 2, some .boolean, 4)
theorem okX1_isLatest : MOK mX1_isLatest 1 := ⟨List.mem_filter.mpr ⟨List.mem_of_getElem? (i := 461) (by decide +kernel), by decide +kernel⟩, in_RX1, by decide +kernel⟩
theorem voX1_isLatest : VOK mX1_isLatest := ⟨List.mem_filter.mpr ⟨List.mem_of_getElem? (i := 459) (by decide +kernel), by decide +kernel⟩, List.mem_filter.mpr ⟨List.mem_of_getElem? (i := 460) (by decide +kernel), by decide +kernel⟩⟩
def mX1_leanNow : MT := (yX1_leanNow, cX1_leanNow, 1, some .int, 4)
theorem okX1_leanNow : MOK mX1_leanNow 0 := ⟨List.mem_filter.mpr ⟨List.mem_of_getElem? (i := 363) (by decide +kernel), by decide +kernel⟩, in_RX1, by decide +kernel⟩
theorem voX1_leanNow : VOK mX1_leanNow := ⟨List.mem_filter.mpr ⟨List.mem_of_getElem? (i := 361) (by decide +kernel), by decide +kernel⟩, List.mem_filter.mpr ⟨List.mem_of_getElem? (i := 362) (by decide +kernel), by decide +kernel⟩⟩
def mX1_leanBy : MT := (yX1_leanBy, cX1_leanBy, 5, some .int, 2)
theorem okX1_leanBy : MOK mX1_leanBy 1 := ⟨List.mem_filter.mpr ⟨List.mem_of_getElem? (i := 367) (by decide +kernel), by decide +kernel⟩, in_RX1, by decide +kernel⟩
theorem voX1_leanBy : VOK mX1_leanBy := ⟨List.mem_filter.mpr ⟨List.mem_of_getElem? (i := 365) (by decide +kernel), by decide +kernel⟩, List.mem_filter.mpr ⟨List.mem_of_getElem? (i := 366) (by decide +kernel), by decide +kernel⟩⟩
def mX1_answerTo : MT := (yX1_answerTo, cX1_answerTo, 2, some .int, 4)
theorem okX1_answerTo : MOK mX1_answerTo 1 := ⟨List.mem_filter.mpr ⟨List.mem_of_getElem? (i := 385) (by decide +kernel), by decide +kernel⟩, in_RX1, by decide +kernel⟩
theorem voX1_answerTo : VOK mX1_answerTo := ⟨List.mem_filter.mpr ⟨List.mem_of_getElem? (i := 383) (by decide +kernel), by decide +kernel⟩, List.mem_filter.mpr ⟨List.mem_of_getElem? (i := 384) (by decide +kernel), by decide +kernel⟩⟩
def mX1_passYear : MT := (yX1_passYear, cX1_passYear, 6, none, 4)
theorem okX1_passYear : MOK mX1_passYear 0 := ⟨List.mem_filter.mpr ⟨List.mem_of_getElem? (i := 394) (by decide +kernel), by decide +kernel⟩, in_RX1, by decide +kernel⟩
theorem voX1_passYear : VOK mX1_passYear := ⟨List.mem_filter.mpr ⟨List.mem_of_getElem? (i := 392) (by decide +kernel), by decide +kernel⟩, List.mem_filter.mpr ⟨List.mem_of_getElem? (i := 393) (by decide +kernel), by decide +kernel⟩⟩
def mX1_together : MT := (yX1_together, cX1_together, 4, some .int, 1)
theorem okX1_together : MOK mX1_together 1 := ⟨List.mem_filter.mpr ⟨List.mem_of_getElem? (i := 418) (by decide +kernel), by decide +kernel⟩, in_RX1, by decide +kernel⟩
theorem voX1_together : VOK mX1_together := ⟨List.mem_filter.mpr ⟨List.mem_of_getElem? (i := 416) (by decide +kernel), by decide +kernel⟩, List.mem_filter.mpr ⟨List.mem_of_getElem? (i := 417) (by decide +kernel), by decide +kernel⟩⟩
def mX1_whoHadIt : MT := (yX1_whoHadIt, cX1_whoHadIt, 3, some .int, 0)
theorem okX1_whoHadIt : MOK mX1_whoHadIt 0 := ⟨List.mem_filter.mpr ⟨List.mem_of_getElem? (i := 423) (by decide +kernel), by decide +kernel⟩, in_RX1, by decide +kernel⟩
theorem voX1_whoHadIt : VOK mX1_whoHadIt := ⟨List.mem_filter.mpr ⟨List.mem_of_getElem? (i := 421) (by decide +kernel), by decide +kernel⟩, List.mem_filter.mpr ⟨List.mem_of_getElem? (i := 422) (by decide +kernel), by decide +kernel⟩⟩
def mX1_spotsHeld : MT := (yX1_spotsHeld, cX1_spotsHeld, 6, some .int, 0)
theorem okX1_spotsHeld : MOK mX1_spotsHeld 0 := ⟨List.mem_filter.mpr ⟨List.mem_of_getElem? (i := 788) (by decide +kernel), by decide +kernel⟩, in_RX1, by decide +kernel⟩
theorem voX1_spotsHeld : VOK mX1_spotsHeld := ⟨List.mem_filter.mpr ⟨List.mem_of_getElem? (i := 786) (by decide +kernel), by decide +kernel⟩, List.mem_filter.mpr ⟨List.mem_of_getElem? (i := 787) (by decide +kernel), by decide +kernel⟩⟩
def mX1_draw : MT := (yX1_draw, cX1_draw, 1, some .int, 0)
theorem okX1_draw : MOK mX1_draw 0 := ⟨List.mem_filter.mpr ⟨List.mem_of_getElem? (i := 567) (by decide +kernel), by decide +kernel⟩, in_RX1, by decide +kernel⟩
theorem voX1_draw : VOK mX1_draw := ⟨List.mem_filter.mpr ⟨List.mem_of_getElem? (i := 565) (by decide +kernel), by decide +kernel⟩, List.mem_filter.mpr ⟨List.mem_of_getElem? (i := 566) (by decide +kernel), by decide +kernel⟩⟩
def mX2_mayHave : MT := (yX2_mayHave, cX2_mayHave, 1, some .boolean, 0)
theorem okX2_mayHave : MOK mX2_mayHave 1 := ⟨List.mem_filter.mpr ⟨List.mem_of_getElem? (i := 738) (by decide +kernel), by decide +kernel⟩, in_RX2, by decide +kernel⟩
theorem stX2_mayHave : Cond.static mX2_mayHave.1 ∈ tb := List.mem_filter.mpr ⟨List.mem_of_getElem? (i := 737) (by decide +kernel), by decide +kernel⟩
def mX2_begin : MT := (yX2_begin, cX2_begin, 4, none, 0)
theorem okX2_begin : MOK mX2_begin 2 := ⟨List.mem_filter.mpr ⟨List.mem_of_getElem? (i := 742) (by decide +kernel), by decide +kernel⟩, in_RX2, by decide +kernel⟩
theorem voX2_begin : VOK mX2_begin := ⟨List.mem_filter.mpr ⟨List.mem_of_getElem? (i := 740) (by decide +kernel), by decide +kernel⟩, List.mem_filter.mpr ⟨List.mem_of_getElem? (i := 741) (by decide +kernel), by decide +kernel⟩⟩
def mX2_isMissing : MT := (yX2_isMissing, cX2_isMissing, 1, some .boolean, 0)
theorem okX2_isMissing : MOK mX2_isMissing 0 := ⟨List.mem_filter.mpr ⟨List.mem_of_getElem? (i := 551) (by decide +kernel), by decide +kernel⟩, in_RX2, by decide +kernel⟩
theorem voX2_isMissing : VOK mX2_isMissing := ⟨List.mem_filter.mpr ⟨List.mem_of_getElem? (i := 549) (by decide +kernel), by decide +kernel⟩, List.mem_filter.mpr ⟨List.mem_of_getElem? (i := 550) (by decide +kernel), by decide +kernel⟩⟩
def mX2_put : MT := (yX2_put, cX2_put, 3, none, 0)
theorem okX2_put : MOK mX2_put 2 := ⟨List.mem_filter.mpr ⟨List.mem_of_getElem? (i := 750) (by decide +kernel), by decide +kernel⟩, in_RX2, by decide +kernel⟩
theorem voX2_put : VOK mX2_put := ⟨List.mem_filter.mpr ⟨List.mem_of_getElem? (i := 748) (by decide +kernel), by decide +kernel⟩, List.mem_filter.mpr ⟨List.mem_of_getElem? (i := 749) (by decide +kernel), by decide +kernel⟩⟩
def mX2_hasRow : MT := (yX2_hasRow, cX2_hasRow, 3, some .boolean, 0)
theorem okX2_hasRow : MOK mX2_hasRow 2 := ⟨List.mem_filter.mpr ⟨List.mem_of_getElem? (i := 758) (by decide +kernel), by decide +kernel⟩, in_RX2, by decide +kernel⟩
theorem voX2_hasRow : VOK mX2_hasRow := ⟨List.mem_filter.mpr ⟨List.mem_of_getElem? (i := 756) (by decide +kernel), by decide +kernel⟩, List.mem_filter.mpr ⟨List.mem_of_getElem? (i := 757) (by decide +kernel), by decide +kernel⟩⟩
def mX3_add : MT := (yX3_add, cX3_add, 2, none, 0)
theorem okX3_add : MOK mX3_add 1 := ⟨List.mem_filter.mpr ⟨List.mem_of_getElem? (i := 586) (by decide +kernel), by decide +kernel⟩, in_RX3, by decide +kernel⟩
theorem voX3_add : VOK mX3_add := ⟨List.mem_filter.mpr ⟨List.mem_of_getElem? (i := 584) (by decide +kernel), by decide +kernel⟩, List.mem_filter.mpr ⟨List.mem_of_getElem? (i := 585) (by decide +kernel), by decide +kernel⟩⟩
def mX3_lookFromBegin : MT := (yX3_lookFromBegin, cX3_lookFromBegin, 1, none, 2)
theorem okX3_lookFromBegin : MOK mX3_lookFromBegin 0 := ⟨List.mem_filter.mpr ⟨List.mem_of_getElem? (i := 602) (by decide +kernel), by decide +kernel⟩, in_RX3, by decide +kernel⟩
theorem voX3_lookFromBegin : VOK mX3_lookFromBegin := ⟨List.mem_filter.mpr ⟨List.mem_of_getElem? (i := 600) (by decide +kernel), by decide +kernel⟩, List.mem_filter.mpr ⟨List.mem_of_getElem? (i := 601) (by decide +kernel), by decide +kernel⟩⟩
def mX3_advance : MT := (yX3_advance, cX3_advance, 1, none, 1)
theorem okX3_advance : MOK mX3_advance 0 := ⟨List.mem_filter.mpr ⟨List.mem_of_getElem? (i := 606) (by decide +kernel), by decide +kernel⟩, in_RX3, by decide +kernel⟩
theorem voX3_advance : VOK mX3_advance := ⟨List.mem_filter.mpr ⟨List.mem_of_getElem? (i := 604) (by decide +kernel), by decide +kernel⟩, List.mem_filter.mpr ⟨List.mem_of_getElem? (i := 605) (by decide +kernel), by decide +kernel⟩⟩
def mX3_sortOfSign : MT := (yX3_sortOfSign, cX3_sortOfSign, 1, some .int, 0)
theorem okX3_sortOfSign : MOK mX3_sortOfSign 1 := ⟨List.mem_filter.mpr ⟨List.mem_of_getElem? (i := 616) (by decide +kernel), by decide +kernel⟩, in_RX3, by decide +kernel⟩
theorem stX3_sortOfSign : Cond.static mX3_sortOfSign.1 ∈ tb := List.mem_filter.mpr ⟨List.mem_of_getElem? (i := 615) (by decide +kernel), by decide +kernel⟩
def mX3_isLetter : MT := (yX3_isLetter, cX3_isLetter, 1, some .boolean, 0)
theorem okX3_isLetter : MOK mX3_isLetter 1 := ⟨List.mem_filter.mpr ⟨List.mem_of_getElem? (i := 609) (by decide +kernel), by decide +kernel⟩, in_RX3, by decide +kernel⟩
theorem stX3_isLetter : Cond.static mX3_isLetter.1 ∈ tb := List.mem_filter.mpr ⟨List.mem_of_getElem? (i := 608) (by decide +kernel), by decide +kernel⟩
def mX3_isDigit : MT := (yX3_isDigit, cX3_isDigit, 1, some .boolean, 0)
theorem okX3_isDigit : MOK mX3_isDigit 1 := ⟨List.mem_filter.mpr ⟨List.mem_of_getElem? (i := 612) (by decide +kernel), by decide +kernel⟩, in_RX3, by decide +kernel⟩
theorem stX3_isDigit : Cond.static mX3_isDigit.1 ∈ tb := List.mem_filter.mpr ⟨List.mem_of_getElem? (i := 611) (by decide +kernel), by decide +kernel⟩
def mX3_isNumber : MT := (yX3_isNumber, cX3_isNumber, 3, some .boolean, 1)
theorem okX3_isNumber : MOK mX3_isNumber 2 := ⟨List.mem_filter.mpr ⟨List.mem_of_getElem? (i := 694) (by decide +kernel), by decide +kernel⟩, in_RX3, by decide +kernel⟩
theorem voX3_isNumber : VOK mX3_isNumber := ⟨List.mem_filter.mpr ⟨List.mem_of_getElem? (i := 692) (by decide +kernel), by decide +kernel⟩, List.mem_filter.mpr ⟨List.mem_of_getElem? (i := 693) (by decide +kernel), by decide +kernel⟩⟩
def mX3_isWord : MT := (yX3_isWord, cX3_isWord, 3, some .boolean, 5)
theorem okX3_isWord : MOK mX3_isWord 1 := ⟨List.mem_filter.mpr ⟨List.mem_of_getElem? (i := 634) (by decide +kernel), by decide +kernel⟩, in_RX3, by decide +kernel⟩
theorem voX3_isWord : VOK mX3_isWord := ⟨List.mem_filter.mpr ⟨List.mem_of_getElem? (i := 632) (by decide +kernel), by decide +kernel⟩, List.mem_filter.mpr ⟨List.mem_of_getElem? (i := 633) (by decide +kernel), by decide +kernel⟩⟩
def mX4_readItems : MT := (yX4_readItems, cX4_readItems, 2, some .int, 9)
theorem okX4_readItems : MOK mX4_readItems 0 := ⟨List.mem_filter.mpr ⟨List.mem_of_getElem? (i := 598) (by decide +kernel), by decide +kernel⟩, in_RX4, by decide +kernel⟩
theorem voX4_readItems : VOK mX4_readItems := ⟨List.mem_filter.mpr ⟨List.mem_of_getElem? (i := 596) (by decide +kernel), by decide +kernel⟩, List.mem_filter.mpr ⟨List.mem_of_getElem? (i := 597) (by decide +kernel), by decide +kernel⟩⟩
def mX4_readsItem : MT := (yX4_readsItem, cX4_readsItem, 2, some .boolean, 8)
theorem okX4_readsItem : MOK mX4_readsItem 0 := ⟨List.mem_filter.mpr ⟨List.mem_of_getElem? (i := 620) (by decide +kernel), by decide +kernel⟩, in_RX4, by decide +kernel⟩
theorem voX4_readsItem : VOK mX4_readsItem := ⟨List.mem_filter.mpr ⟨List.mem_of_getElem? (i := 619) (by decide +kernel), by decide +kernel⟩, List.mem_filter.mpr ⟨List.mem_of_getElem? (i := 7) (by decide +kernel), by decide +kernel⟩⟩
def mX4_readsWeather : MT := (yX4_readsWeather, cX4_readsWeather, 2, some .boolean, 2)
theorem okX4_readsWeather : MOK mX4_readsWeather 1 := ⟨List.mem_filter.mpr ⟨List.mem_of_getElem? (i := 717) (by decide +kernel), by decide +kernel⟩, in_RX4, by decide +kernel⟩
theorem voX4_readsWeather : VOK mX4_readsWeather := ⟨List.mem_filter.mpr ⟨List.mem_of_getElem? (i := 716) (by decide +kernel), by decide +kernel⟩, List.mem_filter.mpr ⟨List.mem_of_getElem? (i := 11) (by decide +kernel), by decide +kernel⟩⟩
def mX4_readsFarm : MT := (yX4_readsFarm, cX4_readsFarm, 3, some .boolean, 7)
theorem okX4_readsFarm : MOK mX4_readsFarm 1 := ⟨List.mem_filter.mpr ⟨List.mem_of_getElem? (i := 687) (by decide +kernel), by decide +kernel⟩, in_RX4, by decide +kernel⟩
theorem voX4_readsFarm : VOK mX4_readsFarm := ⟨List.mem_filter.mpr ⟨List.mem_of_getElem? (i := 686) (by decide +kernel), by decide +kernel⟩, List.mem_filter.mpr ⟨List.mem_of_getElem? (i := 8) (by decide +kernel), by decide +kernel⟩⟩
def mX4_readsHands : MT := (yX4_readsHands, cX4_readsHands, 2, some .boolean, 6)
theorem okX4_readsHands : MOK mX4_readsHands 1 := ⟨List.mem_filter.mpr ⟨List.mem_of_getElem? (i := 700) (by decide +kernel), by decide +kernel⟩, in_RX4, by decide +kernel⟩
theorem voX4_readsHands : VOK mX4_readsHands := ⟨List.mem_filter.mpr ⟨List.mem_of_getElem? (i := 699) (by decide +kernel), by decide +kernel⟩, List.mem_filter.mpr ⟨List.mem_of_getElem? (i := 9) (by decide +kernel), by decide +kernel⟩⟩
def mX4_readsOpinion : MT := (yX4_readsOpinion, cX4_readsOpinion, 3, some .boolean, 6)
theorem okX4_readsOpinion : MOK mX4_readsOpinion 1 := ⟨List.mem_filter.mpr ⟨List.mem_of_getElem? (i := 706) (by decide +kernel), by decide +kernel⟩, in_RX4, by decide +kernel⟩
theorem voX4_readsOpinion : VOK mX4_readsOpinion := ⟨List.mem_filter.mpr ⟨List.mem_of_getElem? (i := 705) (by decide +kernel), by decide +kernel⟩, List.mem_filter.mpr ⟨List.mem_of_getElem? (i := 10) (by decide +kernel), by decide +kernel⟩⟩
def mX4_wordOfKind : MT := (yX4_wordOfKind, cX4_wordOfKind, 1, some (.object "java/lang/String"), 0)
theorem okX4_wordOfKind : MOK mX4_wordOfKind 1 := ⟨List.mem_filter.mpr ⟨List.mem_of_getElem? (i := 623) (by decide +kernel), by decide +kernel⟩, in_RX4, by decide +kernel⟩
theorem stX4_wordOfKind : Cond.static mX4_wordOfKind.1 ∈ tb := List.mem_filter.mpr ⟨List.mem_of_getElem? (i := 622) (by decide +kernel), by decide +kernel⟩
def mX4_wordOfWeather : MT := (yX4_wordOfWeather, cX4_wordOfWeather, 1, some (.object "java/lang/String"), 0)
theorem okX4_wordOfWeather : MOK mX4_wordOfWeather 1 := ⟨List.mem_filter.mpr ⟨List.mem_of_getElem? (i := 710) (by decide +kernel), by decide +kernel⟩, in_RX4, by decide +kernel⟩
theorem stX4_wordOfWeather : Cond.static mX4_wordOfWeather.1 ∈ tb := List.mem_filter.mpr ⟨List.mem_of_getElem? (i := 709) (by decide +kernel), by decide +kernel⟩
def mX5_weather : MT := (yX5_weather, cX5_weather, 4, some .int, 2)
theorem okX5_weather : MOK mX5_weather 2 := ⟨List.mem_filter.mpr ⟨List.mem_of_getElem? (i := 238) (by decide +kernel), by decide +kernel⟩, in_RX5, by decide +kernel⟩
theorem voX5_weather : VOK mX5_weather := ⟨List.mem_filter.mpr ⟨List.mem_of_getElem? (i := 236) (by decide +kernel), by decide +kernel⟩, List.mem_filter.mpr ⟨List.mem_of_getElem? (i := 237) (by decide +kernel), by decide +kernel⟩⟩
def mX5_farm : MT := (yX5_farm, cX5_farm, 3, some .int, 2)
theorem okX5_farm : MOK mX5_farm 2 := ⟨List.mem_filter.mpr ⟨List.mem_of_getElem? (i := 250) (by decide +kernel), by decide +kernel⟩, in_RX5, by decide +kernel⟩
theorem voX5_farm : VOK mX5_farm := ⟨List.mem_filter.mpr ⟨List.mem_of_getElem? (i := 248) (by decide +kernel), by decide +kernel⟩, List.mem_filter.mpr ⟨List.mem_of_getElem? (i := 249) (by decide +kernel), by decide +kernel⟩⟩
def mX5_of : MT := (yX5_of, cX5_of, 5, some .int, 3)
theorem okX5_of : MOK mX5_of 2 := ⟨List.mem_filter.mpr ⟨List.mem_of_getElem? (i := 274) (by decide +kernel), by decide +kernel⟩, in_RX5, by decide +kernel⟩
theorem voX5_of : VOK mX5_of := ⟨List.mem_filter.mpr ⟨List.mem_of_getElem? (i := 272) (by decide +kernel), by decide +kernel⟩, List.mem_filter.mpr ⟨List.mem_of_getElem? (i := 273) (by decide +kernel), by decide +kernel⟩⟩
def mX5_change : MT := (yX5_change, cX5_change, 6, some .int, 2)
theorem okX5_change : MOK mX5_change 3 := ⟨List.mem_filter.mpr ⟨List.mem_of_getElem? (i := 311) (by decide +kernel), by decide +kernel⟩, in_RX5, by decide +kernel⟩
theorem voX5_change : VOK mX5_change := ⟨List.mem_filter.mpr ⟨List.mem_of_getElem? (i := 309) (by decide +kernel), by decide +kernel⟩, List.mem_filter.mpr ⟨List.mem_of_getElem? (i := 310) (by decide +kernel), by decide +kernel⟩⟩
def mX5_left : MT := (yX5_left, cX5_left, 3, some .int, 3)
theorem okX5_left : MOK mX5_left 2 := ⟨List.mem_filter.mpr ⟨List.mem_of_getElem? (i := 319) (by decide +kernel), by decide +kernel⟩, in_RX5, by decide +kernel⟩
theorem voX5_left : VOK mX5_left := ⟨List.mem_filter.mpr ⟨List.mem_of_getElem? (i := 317) (by decide +kernel), by decide +kernel⟩, List.mem_filter.mpr ⟨List.mem_of_getElem? (i := 318) (by decide +kernel), by decide +kernel⟩⟩
def mX5_last : MT := (yX5_last, cX5_last, 1, some .int, 5)
theorem okX5_last : MOK mX5_last 0 := ⟨List.mem_filter.mpr ⟨List.mem_of_getElem? (i := 327) (by decide +kernel), by decide +kernel⟩, in_RX5, by decide +kernel⟩
theorem voX5_last : VOK mX5_last := ⟨List.mem_filter.mpr ⟨List.mem_of_getElem? (i := 325) (by decide +kernel), by decide +kernel⟩, List.mem_filter.mpr ⟨List.mem_of_getElem? (i := 326) (by decide +kernel), by decide +kernel⟩⟩
def mX5_first : MT := (yX5_first, cX5_first, 1, some .int, 4)
theorem okX5_first : MOK mX5_first 0 := ⟨List.mem_filter.mpr ⟨List.mem_of_getElem? (i := 341) (by decide +kernel), by decide +kernel⟩, in_RX5, by decide +kernel⟩
theorem voX5_first : VOK mX5_first := ⟨List.mem_filter.mpr ⟨List.mem_of_getElem? (i := 339) (by decide +kernel), by decide +kernel⟩, List.mem_filter.mpr ⟨List.mem_of_getElem? (i := 340) (by decide +kernel), by decide +kernel⟩⟩
def mX5_next : MT := (yX5_next, cX5_next, 1, some .int, 4)
theorem okX5_next : MOK mX5_next 0 := ⟨List.mem_filter.mpr ⟨List.mem_of_getElem? (i := 349) (by decide +kernel), by decide +kernel⟩, in_RX5, by decide +kernel⟩
theorem voX5_next : VOK mX5_next := ⟨List.mem_filter.mpr ⟨List.mem_of_getElem? (i := 347) (by decide +kernel), by decide +kernel⟩, List.mem_filter.mpr ⟨List.mem_of_getElem? (i := 348) (by decide +kernel), by decide +kernel⟩⟩
def mX5_lean : MT := (yX5_lean, cX5_lean, 1, some .int, 5)
theorem okX5_lean : MOK mX5_lean 0 := ⟨List.mem_filter.mpr ⟨List.mem_of_getElem? (i := 359) (by decide +kernel), by decide +kernel⟩, in_RX5, by decide +kernel⟩
theorem voX5_lean : VOK mX5_lean := ⟨List.mem_filter.mpr ⟨List.mem_of_getElem? (i := 357) (by decide +kernel), by decide +kernel⟩, List.mem_filter.mpr ⟨List.mem_of_getElem? (i := 358) (by decide +kernel), by decide +kernel⟩⟩
def mX5_answer : MT := (yX5_answer, cX5_answer, 2, some .int, 5)
theorem okX5_answer : MOK mX5_answer 1 := ⟨List.mem_filter.mpr ⟨List.mem_of_getElem? (i := 378) (by decide +kernel), by decide +kernel⟩, in_RX5, by decide +kernel⟩
theorem voX5_answer : VOK mX5_answer := ⟨List.mem_filter.mpr ⟨List.mem_of_getElem? (i := 376) (by decide +kernel), by decide +kernel⟩, List.mem_filter.mpr ⟨List.mem_of_getElem? (i := 377) (by decide +kernel), by decide +kernel⟩⟩
def mX5_go : MT := (yX5_go, cX5_go, 3, some .int, 5)
theorem okX5_go : MOK mX5_go 1 := ⟨List.mem_filter.mpr ⟨List.mem_of_getElem? (i := 389) (by decide +kernel), by decide +kernel⟩, in_RX5, by decide +kernel⟩
theorem voX5_go : VOK mX5_go := ⟨List.mem_filter.mpr ⟨List.mem_of_getElem? (i := 387) (by decide +kernel), by decide +kernel⟩, List.mem_filter.mpr ⟨List.mem_of_getElem? (i := 388) (by decide +kernel), by decide +kernel⟩⟩
def mX5_now : MT := (yX5_now, cX5_now, 2, some .int, 4)
theorem okX5_now : MOK mX5_now 1 := ⟨List.mem_filter.mpr ⟨List.mem_of_getElem? (i := 414) (by decide +kernel), by decide +kernel⟩, in_RX5, by decide +kernel⟩
theorem voX5_now : VOK mX5_now := ⟨List.mem_filter.mpr ⟨List.mem_of_getElem? (i := 412) (by decide +kernel), by decide +kernel⟩, List.mem_filter.mpr ⟨List.mem_of_getElem? (i := 413) (by decide +kernel), by decide +kernel⟩⟩
def mX5_holder : MT := (yX5_holder, cX5_holder, 2, some .int, 6)
theorem okX5_holder : MOK mX5_holder 1 := ⟨List.mem_filter.mpr ⟨List.mem_of_getElem? (i := 427) (by decide +kernel), by decide +kernel⟩, in_RX5, by decide +kernel⟩
theorem voX5_holder : VOK mX5_holder := ⟨List.mem_filter.mpr ⟨List.mem_of_getElem? (i := 425) (by decide +kernel), by decide +kernel⟩, List.mem_filter.mpr ⟨List.mem_of_getElem? (i := 426) (by decide +kernel), by decide +kernel⟩⟩
def mX5_ahead : MT := (yX5_ahead, cX5_ahead, 4, some .int, 6)
theorem okX5_ahead : MOK mX5_ahead 3 := ⟨List.mem_filter.mpr ⟨List.mem_of_getElem? (i := 449) (by decide +kernel), by decide +kernel⟩, in_RX5, by decide +kernel⟩
theorem voX5_ahead : VOK mX5_ahead := ⟨List.mem_filter.mpr ⟨List.mem_of_getElem? (i := 447) (by decide +kernel), by decide +kernel⟩, List.mem_filter.mpr ⟨List.mem_of_getElem? (i := 448) (by decide +kernel), by decide +kernel⟩⟩
def mX5_leans : MT := (yX5_leans, cX5_leans, 2, some .int, 6)
theorem okX5_leans : MOK mX5_leans 1 := ⟨List.mem_filter.mpr ⟨List.mem_of_getElem? (i := 453) (by decide +kernel), by decide +kernel⟩, in_RX5, by decide +kernel⟩
theorem voX5_leans : VOK mX5_leans := ⟨List.mem_filter.mpr ⟨List.mem_of_getElem? (i := 451) (by decide +kernel), by decide +kernel⟩, List.mem_filter.mpr ⟨List.mem_of_getElem? (i := 452) (by decide +kernel), by decide +kernel⟩⟩
def mX5_when : MT := (yX5_when, cX5_when, 3, some .int, 5)
theorem okX5_when : MOK mX5_when 1 := ⟨List.mem_filter.mpr ⟨List.mem_of_getElem? (i := 457) (by decide +kernel), by decide +kernel⟩, in_RX5, by decide +kernel⟩
theorem voX5_when : VOK mX5_when := ⟨List.mem_filter.mpr ⟨List.mem_of_getElem? (i := 455) (by decide +kernel), by decide +kernel⟩, List.mem_filter.mpr ⟨List.mem_of_getElem? (i := 456) (by decide +kernel), by decide +kernel⟩⟩
def mX5_tie : MT := (yX5_tie, cX5_tie, 2, some .int, 5)
theorem okX5_tie : MOK mX5_tie 0 := ⟨List.mem_filter.mpr ⟨List.mem_of_getElem? (i := 465) (by decide +kernel), by decide +kernel⟩, in_RX5, by decide +kernel⟩
theorem voX5_tie : VOK mX5_tie := ⟨List.mem_filter.mpr ⟨List.mem_of_getElem? (i := 463) (by decide +kernel), by decide +kernel⟩, List.mem_filter.mpr ⟨List.mem_of_getElem? (i := 464) (by decide +kernel), by decide +kernel⟩⟩
def mX5_turns : MT := (yX5_turns, cX5_turns, 4, some .int, 5)
theorem okX5_turns : MOK mX5_turns 1 := ⟨List.mem_filter.mpr ⟨List.mem_of_getElem? (i := 475) (by decide +kernel), by decide +kernel⟩, in_RX5, by decide +kernel⟩
theorem voX5_turns : VOK mX5_turns := ⟨List.mem_filter.mpr ⟨List.mem_of_getElem? (i := 473) (by decide +kernel), by decide +kernel⟩, List.mem_filter.mpr ⟨List.mem_of_getElem? (i := 474) (by decide +kernel), by decide +kernel⟩⟩
def mX5_mostHands : MT := (yX5_mostHands, cX5_mostHands, 3, some .int, 5)
theorem okX5_mostHands : MOK mX5_mostHands 1 := ⟨List.mem_filter.mpr ⟨List.mem_of_getElem? (i := 479) (by decide +kernel), by decide +kernel⟩, in_RX5, by decide +kernel⟩
theorem voX5_mostHands : VOK mX5_mostHands := ⟨List.mem_filter.mpr ⟨List.mem_of_getElem? (i := 477) (by decide +kernel), by decide +kernel⟩, List.mem_filter.mpr ⟨List.mem_of_getElem? (i := 478) (by decide +kernel), by decide +kernel⟩⟩
def mX5_fewestHands : MT := (yX5_fewestHands, cX5_fewestHands, 3, some .int, 4)
theorem okX5_fewestHands : MOK mX5_fewestHands 1 := ⟨List.mem_filter.mpr ⟨List.mem_of_getElem? (i := 485) (by decide +kernel), by decide +kernel⟩, in_RX5, by decide +kernel⟩
theorem voX5_fewestHands : VOK mX5_fewestHands := ⟨List.mem_filter.mpr ⟨List.mem_of_getElem? (i := 483) (by decide +kernel), by decide +kernel⟩, List.mem_filter.mpr ⟨List.mem_of_getElem? (i := 484) (by decide +kernel), by decide +kernel⟩⟩
def mX5_lend : MT := (yX5_lend, cX5_lend, 4, some .int, 6)
theorem okX5_lend : MOK mX5_lend 1 := ⟨List.mem_filter.mpr ⟨List.mem_of_getElem? (i := 490) (by decide +kernel), by decide +kernel⟩, in_RX5, by decide +kernel⟩
theorem voX5_lend : VOK mX5_lend := ⟨List.mem_filter.mpr ⟨List.mem_of_getElem? (i := 488) (by decide +kernel), by decide +kernel⟩, List.mem_filter.mpr ⟨List.mem_of_getElem? (i := 489) (by decide +kernel), by decide +kernel⟩⟩
def mX5_isLatestIfLent : MT := (yX5_isLatestIfLent, cX5_isLatestIfLent, 6, some .boolean, 5)
theorem okX5_isLatestIfLent : MOK mX5_isLatestIfLent 3 := ⟨List.mem_filter.mpr ⟨List.mem_of_getElem? (i := 494) (by decide +kernel), by decide +kernel⟩, in_RX5, by decide +kernel⟩
theorem voX5_isLatestIfLent : VOK mX5_isLatestIfLent := ⟨List.mem_filter.mpr ⟨List.mem_of_getElem? (i := 493) (by decide +kernel), by decide +kernel⟩, List.mem_filter.mpr ⟨List.mem_of_getElem? (i := 2) (by decide +kernel), by decide +kernel⟩⟩
def mX5_kinds : MT := (yX5_kinds, cX5_kinds, 4, some .int, 5)
theorem okX5_kinds : MOK mX5_kinds 1 := ⟨List.mem_filter.mpr ⟨List.mem_of_getElem? (i := 498) (by decide +kernel), by decide +kernel⟩, in_RX5, by decide +kernel⟩
theorem voX5_kinds : VOK mX5_kinds := ⟨List.mem_filter.mpr ⟨List.mem_of_getElem? (i := 496) (by decide +kernel), by decide +kernel⟩, List.mem_filter.mpr ⟨List.mem_of_getElem? (i := 497) (by decide +kernel), by decide +kernel⟩⟩
def mX5_wetFor : MT := (yX5_wetFor, cX5_wetFor, 3, some .int, 5)
theorem okX5_wetFor : MOK mX5_wetFor 1 := ⟨List.mem_filter.mpr ⟨List.mem_of_getElem? (i := 502) (by decide +kernel), by decide +kernel⟩, in_RX5, by decide +kernel⟩
theorem voX5_wetFor : VOK mX5_wetFor := ⟨List.mem_filter.mpr ⟨List.mem_of_getElem? (i := 500) (by decide +kernel), by decide +kernel⟩, List.mem_filter.mpr ⟨List.mem_of_getElem? (i := 501) (by decide +kernel), by decide +kernel⟩⟩
def mX5_tell : MT := (yX5_tell, cX5_tell, 6, some .int, 5)
theorem okX5_tell : MOK mX5_tell 2 := ⟨List.mem_filter.mpr ⟨List.mem_of_getElem? (i := 506) (by decide +kernel), by decide +kernel⟩, in_RX5, by decide +kernel⟩
theorem voX5_tell : VOK mX5_tell := ⟨List.mem_filter.mpr ⟨List.mem_of_getElem? (i := 504) (by decide +kernel), by decide +kernel⟩, List.mem_filter.mpr ⟨List.mem_of_getElem? (i := 505) (by decide +kernel), by decide +kernel⟩⟩
def mX5_tryOpinion : MT := (yX5_tryOpinion, cX5_tryOpinion, 4, none, 1)
theorem okX5_tryOpinion : MOK mX5_tryOpinion 2 := ⟨List.mem_filter.mpr ⟨List.mem_of_getElem? (i := 510) (by decide +kernel), by decide +kernel⟩, in_RX5, by decide +kernel⟩
theorem voX5_tryOpinion : VOK mX5_tryOpinion := ⟨List.mem_filter.mpr ⟨List.mem_of_getElem? (i := 509) (by decide +kernel), by decide +kernel⟩, List.mem_filter.mpr ⟨List.mem_of_getElem? (i := 3) (by decide +kernel), by decide +kernel⟩⟩
def mX5_voice : MT := (yX5_voice, cX5_voice, 7, some .int, 5)
theorem okX5_voice : MOK mX5_voice 0 := ⟨List.mem_filter.mpr ⟨List.mem_of_getElem? (i := 515) (by decide +kernel), by decide +kernel⟩, in_RX5, by decide +kernel⟩
theorem voX5_voice : VOK mX5_voice := ⟨List.mem_filter.mpr ⟨List.mem_of_getElem? (i := 513) (by decide +kernel), by decide +kernel⟩, List.mem_filter.mpr ⟨List.mem_of_getElem? (i := 514) (by decide +kernel), by decide +kernel⟩⟩
def mX5_miceFor : MT := (yX5_miceFor, cX5_miceFor, 4, some .int, 5)
theorem okX5_miceFor : MOK mX5_miceFor 2 := ⟨List.mem_filter.mpr ⟨List.mem_of_getElem? (i := 520) (by decide +kernel), by decide +kernel⟩, in_RX5, by decide +kernel⟩
theorem voX5_miceFor : VOK mX5_miceFor := ⟨List.mem_filter.mpr ⟨List.mem_of_getElem? (i := 518) (by decide +kernel), by decide +kernel⟩, List.mem_filter.mpr ⟨List.mem_of_getElem? (i := 519) (by decide +kernel), by decide +kernel⟩⟩
def mX5_wins : MT := (yX5_wins, cX5_wins, 3, some .int, 2)
theorem okX5_wins : MOK mX5_wins 2 := ⟨List.mem_filter.mpr ⟨List.mem_of_getElem? (i := 524) (by decide +kernel), by decide +kernel⟩, in_RX5, by decide +kernel⟩
theorem voX5_wins : VOK mX5_wins := ⟨List.mem_filter.mpr ⟨List.mem_of_getElem? (i := 522) (by decide +kernel), by decide +kernel⟩, List.mem_filter.mpr ⟨List.mem_of_getElem? (i := 523) (by decide +kernel), by decide +kernel⟩⟩
def mX5_cut : MT := (yX5_cut, cX5_cut, 4, some .int, 2)
theorem okX5_cut : MOK mX5_cut 2 := ⟨List.mem_filter.mpr ⟨List.mem_of_getElem? (i := 535) (by decide +kernel), by decide +kernel⟩, in_RX5, by decide +kernel⟩
theorem voX5_cut : VOK mX5_cut := ⟨List.mem_filter.mpr ⟨List.mem_of_getElem? (i := 533) (by decide +kernel), by decide +kernel⟩, List.mem_filter.mpr ⟨List.mem_of_getElem? (i := 534) (by decide +kernel), by decide +kernel⟩⟩
def mX5_isCutting : MT := (yX5_isCutting, cX5_isCutting, 2, some .boolean, 1)
theorem okX5_isCutting : MOK mX5_isCutting 2 := ⟨List.mem_filter.mpr ⟨List.mem_of_getElem? (i := 527) (by decide +kernel), by decide +kernel⟩, in_RX5, by decide +kernel⟩
theorem stX5_isCutting : Cond.static mX5_isCutting.1 ∈ tb := List.mem_filter.mpr ⟨List.mem_of_getElem? (i := 526) (by decide +kernel), by decide +kernel⟩
def mX5_winningCut : MT := (yX5_winningCut, cX5_winningCut, 2, some .int, 1)
theorem okX5_winningCut : MOK mX5_winningCut 2 := ⟨List.mem_filter.mpr ⟨List.mem_of_getElem? (i := 530) (by decide +kernel), by decide +kernel⟩, in_RX5, by decide +kernel⟩
theorem stX5_winningCut : Cond.static mX5_winningCut.1 ∈ tb := List.mem_filter.mpr ⟨List.mem_of_getElem? (i := 529) (by decide +kernel), by decide +kernel⟩
def mX5_fits : MT := (yX5_fits, cX5_fits, 6, some .int, 6)
theorem okX5_fits : MOK mX5_fits 2 := ⟨List.mem_filter.mpr ⟨List.mem_of_getElem? (i := 539) (by decide +kernel), by decide +kernel⟩, in_RX5, by decide +kernel⟩
theorem voX5_fits : VOK mX5_fits := ⟨List.mem_filter.mpr ⟨List.mem_of_getElem? (i := 537) (by decide +kernel), by decide +kernel⟩, List.mem_filter.mpr ⟨List.mem_of_getElem? (i := 538) (by decide +kernel), by decide +kernel⟩⟩
def mX5_thinks : MT := (yX5_thinks, cX5_thinks, 5, some .int, 6)
theorem okX5_thinks : MOK mX5_thinks 2 := ⟨List.mem_filter.mpr ⟨List.mem_of_getElem? (i := 559) (by decide +kernel), by decide +kernel⟩, in_RX5, by decide +kernel⟩
theorem voX5_thinks : VOK mX5_thinks := ⟨List.mem_filter.mpr ⟨List.mem_of_getElem? (i := 557) (by decide +kernel), by decide +kernel⟩, List.mem_filter.mpr ⟨List.mem_of_getElem? (i := 558) (by decide +kernel), by decide +kernel⟩⟩
def mX5_refusalOfFit : MT := (yX5_refusalOfFit, cX5_refusalOfFit, 4, some .int, 2)
theorem okX5_refusalOfFit : MOK mX5_refusalOfFit 2 := ⟨List.mem_filter.mpr ⟨List.mem_of_getElem? (i := 543) (by decide +kernel), by decide +kernel⟩, in_RX5, by decide +kernel⟩
theorem voX5_refusalOfFit : VOK mX5_refusalOfFit := ⟨List.mem_filter.mpr ⟨List.mem_of_getElem? (i := 542) (by decide +kernel), by decide +kernel⟩, List.mem_filter.mpr ⟨List.mem_of_getElem? (i := 4) (by decide +kernel), by decide +kernel⟩⟩
def mX5_opinionFits : MT := (yX5_opinionFits, cX5_opinionFits, 6, some .boolean, 5)
theorem okX5_opinionFits : MOK mX5_opinionFits 3 := ⟨List.mem_filter.mpr ⟨List.mem_of_getElem? (i := 555) (by decide +kernel), by decide +kernel⟩, in_RX5, by decide +kernel⟩
theorem voX5_opinionFits : VOK mX5_opinionFits := ⟨List.mem_filter.mpr ⟨List.mem_of_getElem? (i := 554) (by decide +kernel), by decide +kernel⟩, List.mem_filter.mpr ⟨List.mem_of_getElem? (i := 6) (by decide +kernel), by decide +kernel⟩⟩
def mX5_weathers : MT := (yX5_weathers, cX5_weathers, 3, some .int, 5)
theorem okX5_weathers : MOK mX5_weathers 1 := ⟨List.mem_filter.mpr ⟨List.mem_of_getElem? (i := 563) (by decide +kernel), by decide +kernel⟩, in_RX5, by decide +kernel⟩
theorem voX5_weathers : VOK mX5_weathers := ⟨List.mem_filter.mpr ⟨List.mem_of_getElem? (i := 561) (by decide +kernel), by decide +kernel⟩, List.mem_filter.mpr ⟨List.mem_of_getElem? (i := 562) (by decide +kernel), by decide +kernel⟩⟩
def mX5_odds : MT := (yX5_odds, cX5_odds, 8, some .long, 2)
theorem okX5_odds : MOK mX5_odds 2 := ⟨List.mem_filter.mpr ⟨List.mem_of_getElem? (i := 572) (by decide +kernel), by decide +kernel⟩, in_RX5, by decide +kernel⟩
theorem voX5_odds : VOK mX5_odds := ⟨List.mem_filter.mpr ⟨List.mem_of_getElem? (i := 570) (by decide +kernel), by decide +kernel⟩, List.mem_filter.mpr ⟨List.mem_of_getElem? (i := 571) (by decide +kernel), by decide +kernel⟩⟩
def mX5_seed : MT := (yX5_seed, cX5_seed, 3, some .int, 0)
theorem okX5_seed : MOK mX5_seed 1 := ⟨List.mem_filter.mpr ⟨List.mem_of_getElem? (i := 578) (by decide +kernel), by decide +kernel⟩, in_RX5, by decide +kernel⟩
theorem voX5_seed : VOK mX5_seed := ⟨List.mem_filter.mpr ⟨List.mem_of_getElem? (i := 576) (by decide +kernel), by decide +kernel⟩, List.mem_filter.mpr ⟨List.mem_of_getElem? (i := 577) (by decide +kernel), by decide +kernel⟩⟩
def mX5_feed : MT := (yX5_feed, cX5_feed, 4, some .int, 2)
theorem okX5_feed : MOK mX5_feed 2 := ⟨List.mem_filter.mpr ⟨List.mem_of_getElem? (i := 582) (by decide +kernel), by decide +kernel⟩, in_RX5, by decide +kernel⟩
theorem voX5_feed : VOK mX5_feed := ⟨List.mem_filter.mpr ⟨List.mem_of_getElem? (i := 580) (by decide +kernel), by decide +kernel⟩, List.mem_filter.mpr ⟨List.mem_of_getElem? (i := 581) (by decide +kernel), by decide +kernel⟩⟩
def mX5_wipe : MT := (yX5_wipe, cX5_wipe, 2, some .int, 0)
theorem okX5_wipe : MOK mX5_wipe 0 := ⟨List.mem_filter.mpr ⟨List.mem_of_getElem? (i := 590) (by decide +kernel), by decide +kernel⟩, in_RX5, by decide +kernel⟩
theorem voX5_wipe : VOK mX5_wipe := ⟨List.mem_filter.mpr ⟨List.mem_of_getElem? (i := 588) (by decide +kernel), by decide +kernel⟩, List.mem_filter.mpr ⟨List.mem_of_getElem? (i := 589) (by decide +kernel), by decide +kernel⟩⟩
def mX5_text : MT := (yX5_text, cX5_text, 2, some .int, 10)
theorem okX5_text : MOK mX5_text 0 := ⟨List.mem_filter.mpr ⟨List.mem_of_getElem? (i := 594) (by decide +kernel), by decide +kernel⟩, in_RX5, by decide +kernel⟩
theorem voX5_text : VOK mX5_text := ⟨List.mem_filter.mpr ⟨List.mem_of_getElem? (i := 592) (by decide +kernel), by decide +kernel⟩, List.mem_filter.mpr ⟨List.mem_of_getElem? (i := 593) (by decide +kernel), by decide +kernel⟩⟩
def mX5_hold : MT := (yX5_hold, cX5_hold, 3, some .int, 2)
theorem okX5_hold : MOK mX5_hold 2 := ⟨List.mem_filter.mpr ⟨List.mem_of_getElem? (i := 721) (by decide +kernel), by decide +kernel⟩, in_RX5, by decide +kernel⟩
theorem voX5_hold : VOK mX5_hold := ⟨List.mem_filter.mpr ⟨List.mem_of_getElem? (i := 719) (by decide +kernel), by decide +kernel⟩, List.mem_filter.mpr ⟨List.mem_of_getElem? (i := 720) (by decide +kernel), by decide +kernel⟩⟩
def mX5_as : MT := (yX5_as, cX5_as, 4, some .int, 2)
theorem okX5_as : MOK mX5_as 2 := ⟨List.mem_filter.mpr ⟨List.mem_of_getElem? (i := 725) (by decide +kernel), by decide +kernel⟩, in_RX5, by decide +kernel⟩
theorem voX5_as : VOK mX5_as := ⟨List.mem_filter.mpr ⟨List.mem_of_getElem? (i := 723) (by decide +kernel), by decide +kernel⟩, List.mem_filter.mpr ⟨List.mem_of_getElem? (i := 724) (by decide +kernel), by decide +kernel⟩⟩
def mX5_sheet : MT := (yX5_sheet, cX5_sheet, 4, some .int, 2)
theorem okX5_sheet : MOK mX5_sheet 3 := ⟨List.mem_filter.mpr ⟨List.mem_of_getElem? (i := 735) (by decide +kernel), by decide +kernel⟩, in_RX5, by decide +kernel⟩
theorem voX5_sheet : VOK mX5_sheet := ⟨List.mem_filter.mpr ⟨List.mem_of_getElem? (i := 733) (by decide +kernel), by decide +kernel⟩, List.mem_filter.mpr ⟨List.mem_of_getElem? (i := 734) (by decide +kernel), by decide +kernel⟩⟩
def mX5_write : MT := (yX5_write, cX5_write, 5, some .int, 2)
theorem okX5_write : MOK mX5_write 3 := ⟨List.mem_filter.mpr ⟨List.mem_of_getElem? (i := 746) (by decide +kernel), by decide +kernel⟩, in_RX5, by decide +kernel⟩
theorem voX5_write : VOK mX5_write := ⟨List.mem_filter.mpr ⟨List.mem_of_getElem? (i := 744) (by decide +kernel), by decide +kernel⟩, List.mem_filter.mpr ⟨List.mem_of_getElem? (i := 745) (by decide +kernel), by decide +kernel⟩⟩
def mX5_copy : MT := (yX5_copy, cX5_copy, 8, some .int, 2)
theorem okX5_copy : MOK mX5_copy 5 := ⟨List.mem_filter.mpr ⟨List.mem_of_getElem? (i := 754) (by decide +kernel), by decide +kernel⟩, in_RX5, by decide +kernel⟩
theorem voX5_copy : VOK mX5_copy := ⟨List.mem_filter.mpr ⟨List.mem_of_getElem? (i := 752) (by decide +kernel), by decide +kernel⟩, List.mem_filter.mpr ⟨List.mem_of_getElem? (i := 753) (by decide +kernel), by decide +kernel⟩⟩
def mX5_load : MT := (yX5_load, cX5_load, 5, some .int, 2)
theorem okX5_load : MOK mX5_load 1 := ⟨List.mem_filter.mpr ⟨List.mem_of_getElem? (i := 763) (by decide +kernel), by decide +kernel⟩, in_RX5, by decide +kernel⟩
theorem voX5_load : VOK mX5_load := ⟨List.mem_filter.mpr ⟨List.mem_of_getElem? (i := 761) (by decide +kernel), by decide +kernel⟩, List.mem_filter.mpr ⟨List.mem_of_getElem? (i := 762) (by decide +kernel), by decide +kernel⟩⟩
def mX5_judge : MT := (yX5_judge, cX5_judge, 4, some .int, 3)
theorem okX5_judge : MOK mX5_judge 1 := ⟨List.mem_filter.mpr ⟨List.mem_of_getElem? (i := 768) (by decide +kernel), by decide +kernel⟩, in_RX5, by decide +kernel⟩
theorem voX5_judge : VOK mX5_judge := ⟨List.mem_filter.mpr ⟨List.mem_of_getElem? (i := 766) (by decide +kernel), by decide +kernel⟩, List.mem_filter.mpr ⟨List.mem_of_getElem? (i := 767) (by decide +kernel), by decide +kernel⟩⟩
def mX5_image : MT := (yX5_image, cX5_image, 1, some .int, 2)
theorem okX5_image : MOK mX5_image 0 := ⟨List.mem_filter.mpr ⟨List.mem_of_getElem? (i := 772) (by decide +kernel), by decide +kernel⟩, in_RX5, by decide +kernel⟩
theorem voX5_image : VOK mX5_image := ⟨List.mem_filter.mpr ⟨List.mem_of_getElem? (i := 770) (by decide +kernel), by decide +kernel⟩, List.mem_filter.mpr ⟨List.mem_of_getElem? (i := 771) (by decide +kernel), by decide +kernel⟩⟩
def mX5_undo : MT := (yX5_undo, cX5_undo, 1, some .int, 2)
theorem okX5_undo : MOK mX5_undo 0 := ⟨List.mem_filter.mpr ⟨List.mem_of_getElem? (i := 776) (by decide +kernel), by decide +kernel⟩, in_RX5, by decide +kernel⟩
theorem voX5_undo : VOK mX5_undo := ⟨List.mem_filter.mpr ⟨List.mem_of_getElem? (i := 774) (by decide +kernel), by decide +kernel⟩, List.mem_filter.mpr ⟨List.mem_of_getElem? (i := 775) (by decide +kernel), by decide +kernel⟩⟩
def mX5_tear : MT := (yX5_tear, cX5_tear, 2, some .int, 0)
theorem okX5_tear : MOK mX5_tear 0 := ⟨List.mem_filter.mpr ⟨List.mem_of_getElem? (i := 780) (by decide +kernel), by decide +kernel⟩, in_RX5, by decide +kernel⟩
theorem voX5_tear : VOK mX5_tear := ⟨List.mem_filter.mpr ⟨List.mem_of_getElem? (i := 778) (by decide +kernel), by decide +kernel⟩, List.mem_filter.mpr ⟨List.mem_of_getElem? (i := 779) (by decide +kernel), by decide +kernel⟩⟩
def mX5_count : MT := (yX5_count, cX5_count, 2, some .int, 5)
theorem okX5_count : MOK mX5_count 1 := ⟨List.mem_filter.mpr ⟨List.mem_of_getElem? (i := 784) (by decide +kernel), by decide +kernel⟩, in_RX5, by decide +kernel⟩
theorem voX5_count : VOK mX5_count := ⟨List.mem_filter.mpr ⟨List.mem_of_getElem? (i := 782) (by decide +kernel), by decide +kernel⟩, List.mem_filter.mpr ⟨List.mem_of_getElem? (i := 783) (by decide +kernel), by decide +kernel⟩⟩
def mX5_status : MT := (yX5_status, cX5_status, 4, some .int, 2)
theorem okX5_status : MOK mX5_status 1 := ⟨List.mem_filter.mpr ⟨List.mem_of_getElem? (i := 792) (by decide +kernel), by decide +kernel⟩, in_RX5, by decide +kernel⟩
theorem voX5_status : VOK mX5_status := ⟨List.mem_filter.mpr ⟨List.mem_of_getElem? (i := 790) (by decide +kernel), by decide +kernel⟩, List.mem_filter.mpr ⟨List.mem_of_getElem? (i := 791) (by decide +kernel), by decide +kernel⟩⟩
def mX5_finding : MT := (yX5_finding, cX5_finding, 2, some .int, 1)
theorem okX5_finding : MOK mX5_finding 1 := ⟨List.mem_filter.mpr ⟨List.mem_of_getElem? (i := 245) (by decide +kernel), by decide +kernel⟩, in_RX5, by decide +kernel⟩
theorem voX5_finding : VOK mX5_finding := ⟨List.mem_filter.mpr ⟨List.mem_of_getElem? (i := 244) (by decide +kernel), by decide +kernel⟩, List.mem_filter.mpr ⟨List.mem_of_getElem? (i := 0) (by decide +kernel), by decide +kernel⟩⟩
def mX5_refusalOfSheet : MT := (yX5_refusalOfSheet, cX5_refusalOfSheet, 2, some .int, 1)
theorem okX5_refusalOfSheet : MOK mX5_refusalOfSheet 1 := ⟨List.mem_filter.mpr ⟨List.mem_of_getElem? (i := 547) (by decide +kernel), by decide +kernel⟩, in_RX5, by decide +kernel⟩
theorem voX5_refusalOfSheet : VOK mX5_refusalOfSheet := ⟨List.mem_filter.mpr ⟨List.mem_of_getElem? (i := 546) (by decide +kernel), by decide +kernel⟩, List.mem_filter.mpr ⟨List.mem_of_getElem? (i := 5) (by decide +kernel), by decide +kernel⟩⟩
def mX5_trialBehind : MT := (yX5_trialBehind, cX5_trialBehind, 3, some (.object "SheafVotes$Parish"), 5)
theorem okX5_trialBehind : MOK mX5_trialBehind 1 := ⟨List.mem_filter.mpr ⟨List.mem_of_getElem? (i := 434) (by decide +kernel), by decide +kernel⟩, in_RX5, by decide +kernel⟩
theorem voX5_trialBehind : VOK mX5_trialBehind := ⟨List.mem_filter.mpr ⟨List.mem_of_getElem? (i := 433) (by decide +kernel), by decide +kernel⟩, List.mem_filter.mpr ⟨List.mem_of_getElem? (i := 1) (by decide +kernel), by decide +kernel⟩⟩
def mX5_isQuestion : MT := (yX5_isQuestion, cX5_isQuestion, 1, some .boolean, 1)
theorem okX5_isQuestion : MOK mX5_isQuestion 1 := ⟨List.mem_filter.mpr ⟨List.mem_of_getElem? (i := 381) (by decide +kernel), by decide +kernel⟩, in_RX5, by decide +kernel⟩
theorem stX5_isQuestion : Cond.static mX5_isQuestion.1 ∈ tb := List.mem_filter.mpr ⟨List.mem_of_getElem? (i := 380) (by decide +kernel), by decide +kernel⟩
def mX5_isAhead : MT := (yX5_isAhead, cX5_isAhead, 1, some .boolean, 1)
theorem okX5_isAhead : MOK mX5_isAhead 1 := ⟨List.mem_filter.mpr ⟨List.mem_of_getElem? (i := 430) (by decide +kernel), by decide +kernel⟩, in_RX5, by decide +kernel⟩
theorem stX5_isAhead : Cond.static mX5_isAhead.1 ∈ tb := List.mem_filter.mpr ⟨List.mem_of_getElem? (i := 429) (by decide +kernel), by decide +kernel⟩
def mX5_isIn : MT := (yX5_isIn, cX5_isIn, 2, some .boolean, 0)
theorem okX5_isIn : MOK mX5_isIn 2 := ⟨List.mem_filter.mpr ⟨List.mem_of_getElem? (i := 370) (by decide +kernel), by decide +kernel⟩, in_RX5, by decide +kernel⟩
theorem stX5_isIn : Cond.static mX5_isIn.1 ∈ tb := List.mem_filter.mpr ⟨List.mem_of_getElem? (i := 369) (by decide +kernel), by decide +kernel⟩
def mX5_within : MT := (yX5_within, cX5_within, 3, some .boolean, 0)
theorem okX5_within : MOK mX5_within 3 := ⟨List.mem_filter.mpr ⟨List.mem_of_getElem? (i := 241) (by decide +kernel), by decide +kernel⟩, in_RX5, by decide +kernel⟩
theorem stX5_within : Cond.static mX5_within.1 ∈ tb := List.mem_filter.mpr ⟨List.mem_of_getElem? (i := 240) (by decide +kernel), by decide +kernel⟩
def mX6_isIn : MT := (yX6_isIn, cX6_isIn, 6, some .boolean, 0)
theorem okX6_isIn : MOK mX6_isIn 3 := ⟨List.mem_filter.mpr ⟨List.mem_of_getElem? (i := 867) (by decide +kernel), by decide +kernel⟩, in_RX6, by decide +kernel⟩
theorem stX6_isIn : Cond.static mX6_isIn.1 ∈ tb := List.mem_filter.mpr ⟨List.mem_of_getElem? (i := 866) (by decide +kernel), by decide +kernel⟩
def mX6_finds : MT := (yX6_finds, cX6_finds, 2, some .int, 0)
theorem okX6_finds : MOK mX6_finds 1 := ⟨List.mem_filter.mpr ⟨List.mem_of_getElem? (i := 877) (by decide +kernel), by decide +kernel⟩, in_RX6, by decide +kernel⟩
theorem voX6_finds : VOK mX6_finds := ⟨List.mem_filter.mpr ⟨List.mem_of_getElem? (i := 876) (by decide +kernel), by decide +kernel⟩, List.mem_filter.mpr ⟨List.mem_of_getElem? (i := 13) (by decide +kernel), by decide +kernel⟩⟩
def mX6_becomes : MT := (yX6_becomes, cX6_becomes, 4, some .int, 0)
theorem okX6_becomes : MOK mX6_becomes 2 := ⟨List.mem_filter.mpr ⟨List.mem_of_getElem? (i := 872) (by decide +kernel), by decide +kernel⟩, in_RX6, by decide +kernel⟩
theorem voX6_becomes : VOK mX6_becomes := ⟨List.mem_filter.mpr ⟨List.mem_of_getElem? (i := 871) (by decide +kernel), by decide +kernel⟩, List.mem_filter.mpr ⟨List.mem_of_getElem? (i := 12) (by decide +kernel), by decide +kernel⟩⟩
def mX6_copyRow : MT := (yX6_copyRow, cX6_copyRow, 3, none, 0)
theorem okX6_copyRow : MOK mX6_copyRow 2 := ⟨List.mem_filter.mpr ⟨List.mem_of_getElem? (i := 1034) (by decide +kernel), by decide +kernel⟩, in_RX6, by decide +kernel⟩
theorem stX6_copyRow : Cond.static mX6_copyRow.1 ∈ tb := List.mem_filter.mpr ⟨List.mem_of_getElem? (i := 1033) (by decide +kernel), by decide +kernel⟩
def mX6_isFarm : MT := (yX6_isFarm, cX6_isFarm, 2, some .boolean, 0)
theorem okX6_isFarm : MOK mX6_isFarm 1 := ⟨List.mem_filter.mpr ⟨List.mem_of_getElem? (i := 896) (by decide +kernel), by decide +kernel⟩, in_RX6, by decide +kernel⟩
theorem voX6_isFarm : VOK mX6_isFarm := ⟨List.mem_filter.mpr ⟨List.mem_of_getElem? (i := 895) (by decide +kernel), by decide +kernel⟩, List.mem_filter.mpr ⟨List.mem_of_getElem? (i := 15) (by decide +kernel), by decide +kernel⟩⟩
def mX6_its : MT := (yX6_its, cX6_its, 3, some .int, 0)
theorem okX6_its : MOK mX6_its 2 := ⟨List.mem_filter.mpr ⟨List.mem_of_getElem? (i := 901) (by decide +kernel), by decide +kernel⟩, in_RX6, by decide +kernel⟩
theorem voX6_its : VOK mX6_its := ⟨List.mem_filter.mpr ⟨List.mem_of_getElem? (i := 900) (by decide +kernel), by decide +kernel⟩, List.mem_filter.mpr ⟨List.mem_of_getElem? (i := 16) (by decide +kernel), by decide +kernel⟩⟩
def mX6_least : MT := (yX6_least, cX6_least, 2, some .int, 0)
theorem okX6_least : MOK mX6_least 2 := ⟨List.mem_filter.mpr ⟨List.mem_of_getElem? (i := 919) (by decide +kernel), by decide +kernel⟩, in_RX6, by decide +kernel⟩
theorem stX6_least : Cond.static mX6_least.1 ∈ tb := List.mem_filter.mpr ⟨List.mem_of_getElem? (i := 918) (by decide +kernel), by decide +kernel⟩
def mX6_greatest : MT := (yX6_greatest, cX6_greatest, 2, some .int, 0)
theorem okX6_greatest : MOK mX6_greatest 2 := ⟨List.mem_filter.mpr ⟨List.mem_of_getElem? (i := 908) (by decide +kernel), by decide +kernel⟩, in_RX6, by decide +kernel⟩
theorem stX6_greatest : Cond.static mX6_greatest.1 ∈ tb := List.mem_filter.mpr ⟨List.mem_of_getElem? (i := 907) (by decide +kernel), by decide +kernel⟩
def mX6_orNone : MT := (yX6_orNone, cX6_orNone, 2, some .int, 1)
theorem okX6_orNone : MOK mX6_orNone 1 := ⟨List.mem_filter.mpr ⟨List.mem_of_getElem? (i := 1075) (by decide +kernel), by decide +kernel⟩, in_RX6, by decide +kernel⟩
theorem voX6_orNone : VOK mX6_orNone := ⟨List.mem_filter.mpr ⟨List.mem_of_getElem? (i := 1074) (by decide +kernel), by decide +kernel⟩, List.mem_filter.mpr ⟨List.mem_of_getElem? (i := 34) (by decide +kernel), by decide +kernel⟩⟩
def mX6_many : MT := (yX6_many, cX6_many, 3, some .int, 0)
theorem okX6_many : MOK mX6_many 1 := ⟨List.mem_filter.mpr ⟨List.mem_of_getElem? (i := 1055) (by decide +kernel), by decide +kernel⟩, in_RX6, by decide +kernel⟩
theorem stX6_many : Cond.static mX6_many.1 ∈ tb := List.mem_filter.mpr ⟨List.mem_of_getElem? (i := 1054) (by decide +kernel), by decide +kernel⟩
def mX6_weather : MT := (yX6_weather, cX6_weather, 3, some .int, 1)
theorem okX6_weather : MOK mX6_weather 2 := ⟨List.mem_filter.mpr ⟨List.mem_of_getElem? (i := 863) (by decide +kernel), by decide +kernel⟩, in_RX6, by decide +kernel⟩
theorem voX6_weather : VOK mX6_weather := ⟨List.mem_filter.mpr ⟨List.mem_of_getElem? (i := 861) (by decide +kernel), by decide +kernel⟩, List.mem_filter.mpr ⟨List.mem_of_getElem? (i := 862) (by decide +kernel), by decide +kernel⟩⟩
def mX6_comes : MT := (yX6_comes, cX6_comes, 4, none, 0)
theorem okX6_comes : MOK mX6_comes 2 := ⟨List.mem_filter.mpr ⟨List.mem_of_getElem? (i := 888) (by decide +kernel), by decide +kernel⟩, in_RX6, by decide +kernel⟩
theorem voX6_comes : VOK mX6_comes := ⟨List.mem_filter.mpr ⟨List.mem_of_getElem? (i := 887) (by decide +kernel), by decide +kernel⟩, List.mem_filter.mpr ⟨List.mem_of_getElem? (i := 14) (by decide +kernel), by decide +kernel⟩⟩
def mX6_farm : MT := (yX6_farm, cX6_farm, 3, some .int, 1)
theorem okX6_farm : MOK mX6_farm 2 := ⟨List.mem_filter.mpr ⟨List.mem_of_getElem? (i := 881) (by decide +kernel), by decide +kernel⟩, in_RX6, by decide +kernel⟩
theorem voX6_farm : VOK mX6_farm := ⟨List.mem_filter.mpr ⟨List.mem_of_getElem? (i := 879) (by decide +kernel), by decide +kernel⟩, List.mem_filter.mpr ⟨List.mem_of_getElem? (i := 880) (by decide +kernel), by decide +kernel⟩⟩
def mX6_reaps : MT := (yX6_reaps, cX6_reaps, 6, some .int, 1)
theorem okX6_reaps : MOK mX6_reaps 2 := ⟨List.mem_filter.mpr ⟨List.mem_of_getElem? (i := 905) (by decide +kernel), by decide +kernel⟩, in_RX6, by decide +kernel⟩
theorem voX6_reaps : VOK mX6_reaps := ⟨List.mem_filter.mpr ⟨List.mem_of_getElem? (i := 904) (by decide +kernel), by decide +kernel⟩, List.mem_filter.mpr ⟨List.mem_of_getElem? (i := 17) (by decide +kernel), by decide +kernel⟩⟩
def mX6_leftBehind : MT := (yX6_leftBehind, cX6_leftBehind, 5, some .int, 2)
theorem okX6_leftBehind : MOK mX6_leftBehind 2 := ⟨List.mem_filter.mpr ⟨List.mem_of_getElem? (i := 938) (by decide +kernel), by decide +kernel⟩, in_RX6, by decide +kernel⟩
theorem voX6_leftBehind : VOK mX6_leftBehind := ⟨List.mem_filter.mpr ⟨List.mem_of_getElem? (i := 937) (by decide +kernel), by decide +kernel⟩, List.mem_filter.mpr ⟨List.mem_of_getElem? (i := 20) (by decide +kernel), by decide +kernel⟩⟩
def mX6_days : MT := (yX6_days, cX6_days, 5, some .int, 2)
theorem okX6_days : MOK mX6_days 1 := ⟨List.mem_filter.mpr ⟨List.mem_of_getElem? (i := 912) (by decide +kernel), by decide +kernel⟩, in_RX6, by decide +kernel⟩
theorem voX6_days : VOK mX6_days := ⟨List.mem_filter.mpr ⟨List.mem_of_getElem? (i := 911) (by decide +kernel), by decide +kernel⟩, List.mem_filter.mpr ⟨List.mem_of_getElem? (i := 18) (by decide +kernel), by decide +kernel⟩⟩
def mX6_tells : MT := (yX6_tells, cX6_tells, 2, some .int, 1)
theorem okX6_tells : MOK mX6_tells 1 := ⟨List.mem_filter.mpr ⟨List.mem_of_getElem? (i := 916) (by decide +kernel), by decide +kernel⟩, in_RX6, by decide +kernel⟩
theorem voX6_tells : VOK mX6_tells := ⟨List.mem_filter.mpr ⟨List.mem_of_getElem? (i := 915) (by decide +kernel), by decide +kernel⟩, List.mem_filter.mpr ⟨List.mem_of_getElem? (i := 19) (by decide +kernel), by decide +kernel⟩⟩
def mX6_of : MT := (yX6_of, cX6_of, 3, some .int, 3)
theorem okX6_of : MOK mX6_of 2 := ⟨List.mem_filter.mpr ⟨List.mem_of_getElem? (i := 892) (by decide +kernel), by decide +kernel⟩, in_RX6, by decide +kernel⟩
theorem voX6_of : VOK mX6_of := ⟨List.mem_filter.mpr ⟨List.mem_of_getElem? (i := 890) (by decide +kernel), by decide +kernel⟩, List.mem_filter.mpr ⟨List.mem_of_getElem? (i := 891) (by decide +kernel), by decide +kernel⟩⟩
def mX6_isFit : MT := (yX6_isFit, cX6_isFit, 2, some .boolean, 1)
theorem okX6_isFit : MOK mX6_isFit 2 := ⟨List.mem_filter.mpr ⟨List.mem_of_getElem? (i := 926) (by decide +kernel), by decide +kernel⟩, in_RX6, by decide +kernel⟩
theorem stX6_isFit : Cond.static mX6_isFit.1 ∈ tb := List.mem_filter.mpr ⟨List.mem_of_getElem? (i := 925) (by decide +kernel), by decide +kernel⟩
def mX6_change : MT := (yX6_change, cX6_change, 4, some .int, 2)
theorem okX6_change : MOK mX6_change 3 := ⟨List.mem_filter.mpr ⟨List.mem_of_getElem? (i := 923) (by decide +kernel), by decide +kernel⟩, in_RX6, by decide +kernel⟩
theorem voX6_change : VOK mX6_change := ⟨List.mem_filter.mpr ⟨List.mem_of_getElem? (i := 921) (by decide +kernel), by decide +kernel⟩, List.mem_filter.mpr ⟨List.mem_of_getElem? (i := 922) (by decide +kernel), by decide +kernel⟩⟩
def mX6_left : MT := (yX6_left, cX6_left, 3, some .int, 3)
theorem okX6_left : MOK mX6_left 2 := ⟨List.mem_filter.mpr ⟨List.mem_of_getElem? (i := 934) (by decide +kernel), by decide +kernel⟩, in_RX6, by decide +kernel⟩
theorem voX6_left : VOK mX6_left := ⟨List.mem_filter.mpr ⟨List.mem_of_getElem? (i := 932) (by decide +kernel), by decide +kernel⟩, List.mem_filter.mpr ⟨List.mem_of_getElem? (i := 933) (by decide +kernel), by decide +kernel⟩⟩
def mX6_countsDays : MT := (yX6_countsDays, cX6_countsDays, 2, none, 3)
theorem okX6_countsDays : MOK mX6_countsDays 0 := ⟨List.mem_filter.mpr ⟨List.mem_of_getElem? (i := 950) (by decide +kernel), by decide +kernel⟩, in_RX6, by decide +kernel⟩
theorem voX6_countsDays : VOK mX6_countsDays := ⟨List.mem_filter.mpr ⟨List.mem_of_getElem? (i := 949) (by decide +kernel), by decide +kernel⟩, List.mem_filter.mpr ⟨List.mem_of_getElem? (i := 22) (by decide +kernel), by decide +kernel⟩⟩
def mX6_mostDays : MT := (yX6_mostDays, cX6_mostDays, 3, some .int, 1)
theorem okX6_mostDays : MOK mX6_mostDays 0 := ⟨List.mem_filter.mpr ⟨List.mem_of_getElem? (i := 954) (by decide +kernel), by decide +kernel⟩, in_RX6, by decide +kernel⟩
theorem voX6_mostDays : VOK mX6_mostDays := ⟨List.mem_filter.mpr ⟨List.mem_of_getElem? (i := 953) (by decide +kernel), by decide +kernel⟩, List.mem_filter.mpr ⟨List.mem_of_getElem? (i := 23) (by decide +kernel), by decide +kernel⟩⟩
def mX6_withDays : MT := (yX6_withDays, cX6_withDays, 4, some .int, 0)
theorem okX6_withDays : MOK mX6_withDays 1 := ⟨List.mem_filter.mpr ⟨List.mem_of_getElem? (i := 958) (by decide +kernel), by decide +kernel⟩, in_RX6, by decide +kernel⟩
theorem voX6_withDays : VOK mX6_withDays := ⟨List.mem_filter.mpr ⟨List.mem_of_getElem? (i := 957) (by decide +kernel), by decide +kernel⟩, List.mem_filter.mpr ⟨List.mem_of_getElem? (i := 24) (by decide +kernel), by decide +kernel⟩⟩
def mX6_lasts : MT := (yX6_lasts, cX6_lasts, 1, some .int, 4)
theorem okX6_lasts : MOK mX6_lasts 0 := ⟨List.mem_filter.mpr ⟨List.mem_of_getElem? (i := 946) (by decide +kernel), by decide +kernel⟩, in_RX6, by decide +kernel⟩
theorem voX6_lasts : VOK mX6_lasts := ⟨List.mem_filter.mpr ⟨List.mem_of_getElem? (i := 945) (by decide +kernel), by decide +kernel⟩, List.mem_filter.mpr ⟨List.mem_of_getElem? (i := 21) (by decide +kernel), by decide +kernel⟩⟩
def mX6_firsts : MT := (yX6_firsts, cX6_firsts, 3, some .int, 2)
theorem okX6_firsts : MOK mX6_firsts 0 := ⟨List.mem_filter.mpr ⟨List.mem_of_getElem? (i := 966) (by decide +kernel), by decide +kernel⟩, in_RX6, by decide +kernel⟩
theorem voX6_firsts : VOK mX6_firsts := ⟨List.mem_filter.mpr ⟨List.mem_of_getElem? (i := 965) (by decide +kernel), by decide +kernel⟩, List.mem_filter.mpr ⟨List.mem_of_getElem? (i := 25) (by decide +kernel), by decide +kernel⟩⟩
def mX6_last : MT := (yX6_last, cX6_last, 1, some .int, 5)
theorem okX6_last : MOK mX6_last 0 := ⟨List.mem_filter.mpr ⟨List.mem_of_getElem? (i := 942) (by decide +kernel), by decide +kernel⟩, in_RX6, by decide +kernel⟩
theorem voX6_last : VOK mX6_last := ⟨List.mem_filter.mpr ⟨List.mem_of_getElem? (i := 940) (by decide +kernel), by decide +kernel⟩, List.mem_filter.mpr ⟨List.mem_of_getElem? (i := 941) (by decide +kernel), by decide +kernel⟩⟩
def mX6_first : MT := (yX6_first, cX6_first, 1, some .int, 4)
theorem okX6_first : MOK mX6_first 0 := ⟨List.mem_filter.mpr ⟨List.mem_of_getElem? (i := 962) (by decide +kernel), by decide +kernel⟩, in_RX6, by decide +kernel⟩
theorem voX6_first : VOK mX6_first := ⟨List.mem_filter.mpr ⟨List.mem_of_getElem? (i := 960) (by decide +kernel), by decide +kernel⟩, List.mem_filter.mpr ⟨List.mem_of_getElem? (i := 961) (by decide +kernel), by decide +kernel⟩⟩
def mX6_next : MT := (yX6_next, cX6_next, 4, some .int, 5)
theorem okX6_next : MOK mX6_next 0 := ⟨List.mem_filter.mpr ⟨List.mem_of_getElem? (i := 970) (by decide +kernel), by decide +kernel⟩, in_RX6, by decide +kernel⟩
theorem voX6_next : VOK mX6_next := ⟨List.mem_filter.mpr ⟨List.mem_of_getElem? (i := 968) (by decide +kernel), by decide +kernel⟩, List.mem_filter.mpr ⟨List.mem_of_getElem? (i := 969) (by decide +kernel), by decide +kernel⟩⟩
def mX6_nearer : MT := (yX6_nearer, cX6_nearer, 2, some .int, 0)
theorem okX6_nearer : MOK mX6_nearer 2 := ⟨List.mem_filter.mpr ⟨List.mem_of_getElem? (i := 985) (by decide +kernel), by decide +kernel⟩, in_RX6, by decide +kernel⟩
theorem stX6_nearer : Cond.static mX6_nearer.1 ∈ tb := List.mem_filter.mpr ⟨List.mem_of_getElem? (i := 984) (by decide +kernel), by decide +kernel⟩
def mX6_leanBy : MT := (yX6_leanBy, cX6_leanBy, 4, some .int, 2)
theorem okX6_leanBy : MOK mX6_leanBy 1 := ⟨List.mem_filter.mpr ⟨List.mem_of_getElem? (i := 982) (by decide +kernel), by decide +kernel⟩, in_RX6, by decide +kernel⟩
theorem voX6_leanBy : VOK mX6_leanBy := ⟨List.mem_filter.mpr ⟨List.mem_of_getElem? (i := 981) (by decide +kernel), by decide +kernel⟩, List.mem_filter.mpr ⟨List.mem_of_getElem? (i := 27) (by decide +kernel), by decide +kernel⟩⟩
def mX6_leanNow : MT := (yX6_leanNow, cX6_leanNow, 1, some .int, 5)
theorem okX6_leanNow : MOK mX6_leanNow 0 := ⟨List.mem_filter.mpr ⟨List.mem_of_getElem? (i := 978) (by decide +kernel), by decide +kernel⟩, in_RX6, by decide +kernel⟩
theorem voX6_leanNow : VOK mX6_leanNow := ⟨List.mem_filter.mpr ⟨List.mem_of_getElem? (i := 977) (by decide +kernel), by decide +kernel⟩, List.mem_filter.mpr ⟨List.mem_of_getElem? (i := 26) (by decide +kernel), by decide +kernel⟩⟩
def mX6_lean : MT := (yX6_lean, cX6_lean, 1, some .int, 6)
theorem okX6_lean : MOK mX6_lean 0 := ⟨List.mem_filter.mpr ⟨List.mem_of_getElem? (i := 974) (by decide +kernel), by decide +kernel⟩, in_RX6, by decide +kernel⟩
theorem voX6_lean : VOK mX6_lean := ⟨List.mem_filter.mpr ⟨List.mem_of_getElem? (i := 972) (by decide +kernel), by decide +kernel⟩, List.mem_filter.mpr ⟨List.mem_of_getElem? (i := 973) (by decide +kernel), by decide +kernel⟩⟩
def mX6_isAsked : MT := (yX6_isAsked, cX6_isAsked, 1, some .boolean, 1)
theorem okX6_isAsked : MOK mX6_isAsked 1 := ⟨List.mem_filter.mpr ⟨List.mem_of_getElem? (i := 992) (by decide +kernel), by decide +kernel⟩, in_RX6, by decide +kernel⟩
theorem stX6_isAsked : Cond.static mX6_isAsked.1 ∈ tb := List.mem_filter.mpr ⟨List.mem_of_getElem? (i := 991) (by decide +kernel), by decide +kernel⟩
def mX6_answerTo : MT := (yX6_answerTo, cX6_answerTo, 2, some .int, 6)
theorem okX6_answerTo : MOK mX6_answerTo 1 := ⟨List.mem_filter.mpr ⟨List.mem_of_getElem? (i := 997) (by decide +kernel), by decide +kernel⟩, in_RX6, by decide +kernel⟩
theorem voX6_answerTo : VOK mX6_answerTo := ⟨List.mem_filter.mpr ⟨List.mem_of_getElem? (i := 996) (by decide +kernel), by decide +kernel⟩, List.mem_filter.mpr ⟨List.mem_of_getElem? (i := 28) (by decide +kernel), by decide +kernel⟩⟩
def mX6_answer : MT := (yX6_answer, cX6_answer, 2, some .int, 7)
theorem okX6_answer : MOK mX6_answer 1 := ⟨List.mem_filter.mpr ⟨List.mem_of_getElem? (i := 989) (by decide +kernel), by decide +kernel⟩, in_RX6, by decide +kernel⟩
theorem voX6_answer : VOK mX6_answer := ⟨List.mem_filter.mpr ⟨List.mem_of_getElem? (i := 987) (by decide +kernel), by decide +kernel⟩, List.mem_filter.mpr ⟨List.mem_of_getElem? (i := 988) (by decide +kernel), by decide +kernel⟩⟩
def mX6_year : MT := (yX6_year, cX6_year, 7, none, 5)
theorem okX6_year : MOK mX6_year 0 := ⟨List.mem_filter.mpr ⟨List.mem_of_getElem? (i := 1012) (by decide +kernel), by decide +kernel⟩, in_RX6, by decide +kernel⟩
theorem voX6_year : VOK mX6_year := ⟨List.mem_filter.mpr ⟨List.mem_of_getElem? (i := 1011) (by decide +kernel), by decide +kernel⟩, List.mem_filter.mpr ⟨List.mem_of_getElem? (i := 30) (by decide +kernel), by decide +kernel⟩⟩
def mX6_years : MT := (yX6_years, cX6_years, 3, none, 6)
theorem okX6_years : MOK mX6_years 1 := ⟨List.mem_filter.mpr ⟨List.mem_of_getElem? (i := 1008) (by decide +kernel), by decide +kernel⟩, in_RX6, by decide +kernel⟩
theorem voX6_years : VOK mX6_years := ⟨List.mem_filter.mpr ⟨List.mem_of_getElem? (i := 1007) (by decide +kernel), by decide +kernel⟩, List.mem_filter.mpr ⟨List.mem_of_getElem? (i := 29) (by decide +kernel), by decide +kernel⟩⟩
def mX6_go : MT := (yX6_go, cX6_go, 2, some .int, 7)
theorem okX6_go : MOK mX6_go 1 := ⟨List.mem_filter.mpr ⟨List.mem_of_getElem? (i := 1001) (by decide +kernel), by decide +kernel⟩, in_RX6, by decide +kernel⟩
theorem voX6_go : VOK mX6_go := ⟨List.mem_filter.mpr ⟨List.mem_of_getElem? (i := 999) (by decide +kernel), by decide +kernel⟩, List.mem_filter.mpr ⟨List.mem_of_getElem? (i := 1000) (by decide +kernel), by decide +kernel⟩⟩
def mX6_sumOf : MT := (yX6_sumOf, cX6_sumOf, 4, some .int, 1)
theorem okX6_sumOf : MOK mX6_sumOf 1 := ⟨List.mem_filter.mpr ⟨List.mem_of_getElem? (i := 1020) (by decide +kernel), by decide +kernel⟩, in_RX6, by decide +kernel⟩
theorem voX6_sumOf : VOK mX6_sumOf := ⟨List.mem_filter.mpr ⟨List.mem_of_getElem? (i := 1019) (by decide +kernel), by decide +kernel⟩, List.mem_filter.mpr ⟨List.mem_of_getElem? (i := 31) (by decide +kernel), by decide +kernel⟩⟩
def mX6_hadEver : MT := (yX6_hadEver, cX6_hadEver, 3, some .int, 1)
theorem okX6_hadEver : MOK mX6_hadEver 0 := ⟨List.mem_filter.mpr ⟨List.mem_of_getElem? (i := 1024) (by decide +kernel), by decide +kernel⟩, in_RX6, by decide +kernel⟩
theorem voX6_hadEver : VOK mX6_hadEver := ⟨List.mem_filter.mpr ⟨List.mem_of_getElem? (i := 1023) (by decide +kernel), by decide +kernel⟩, List.mem_filter.mpr ⟨List.mem_of_getElem? (i := 32) (by decide +kernel), by decide +kernel⟩⟩
def mX6_now : MT := (yX6_now, cX6_now, 2, some .int, 4)
theorem okX6_now : MOK mX6_now 1 := ⟨List.mem_filter.mpr ⟨List.mem_of_getElem? (i := 1016) (by decide +kernel), by decide +kernel⟩, in_RX6, by decide +kernel⟩
theorem voX6_now : VOK mX6_now := ⟨List.mem_filter.mpr ⟨List.mem_of_getElem? (i := 1014) (by decide +kernel), by decide +kernel⟩, List.mem_filter.mpr ⟨List.mem_of_getElem? (i := 1015) (by decide +kernel), by decide +kernel⟩⟩
def mX6_isLong : MT := (yX6_isLong, cX6_isLong, 1, some .boolean, 1)
theorem okX6_isLong : MOK mX6_isLong 1 := ⟨List.mem_filter.mpr ⟨List.mem_of_getElem? (i := 1031) (by decide +kernel), by decide +kernel⟩, in_RX6, by decide +kernel⟩
theorem stX6_isLong : Cond.static mX6_isLong.1 ∈ tb := List.mem_filter.mpr ⟨List.mem_of_getElem? (i := 1030) (by decide +kernel), by decide +kernel⟩
def mX6_holder : MT := (yX6_holder, cX6_holder, 3, some .int, 7)
theorem okX6_holder : MOK mX6_holder 1 := ⟨List.mem_filter.mpr ⟨List.mem_of_getElem? (i := 1028) (by decide +kernel), by decide +kernel⟩, in_RX6, by decide +kernel⟩
theorem voX6_holder : VOK mX6_holder := ⟨List.mem_filter.mpr ⟨List.mem_of_getElem? (i := 1026) (by decide +kernel), by decide +kernel⟩, List.mem_filter.mpr ⟨List.mem_of_getElem? (i := 1027) (by decide +kernel), by decide +kernel⟩⟩
def mX6_ahead : MT := (yX6_ahead, cX6_ahead, 5, some .int, 7)
theorem okX6_ahead : MOK mX6_ahead 3 := ⟨List.mem_filter.mpr ⟨List.mem_of_getElem? (i := 1038) (by decide +kernel), by decide +kernel⟩, in_RX6, by decide +kernel⟩
theorem voX6_ahead : VOK mX6_ahead := ⟨List.mem_filter.mpr ⟨List.mem_of_getElem? (i := 1036) (by decide +kernel), by decide +kernel⟩, List.mem_filter.mpr ⟨List.mem_of_getElem? (i := 1037) (by decide +kernel), by decide +kernel⟩⟩
def mX6_leans : MT := (yX6_leans, cX6_leans, 3, some .int, 7)
theorem okX6_leans : MOK mX6_leans 1 := ⟨List.mem_filter.mpr ⟨List.mem_of_getElem? (i := 1043) (by decide +kernel), by decide +kernel⟩, in_RX6, by decide +kernel⟩
theorem voX6_leans : VOK mX6_leans := ⟨List.mem_filter.mpr ⟨List.mem_of_getElem? (i := 1041) (by decide +kernel), by decide +kernel⟩, List.mem_filter.mpr ⟨List.mem_of_getElem? (i := 1042) (by decide +kernel), by decide +kernel⟩⟩
def mX6_when : MT := (yX6_when, cX6_when, 3, some .int, 6)
theorem okX6_when : MOK mX6_when 1 := ⟨List.mem_filter.mpr ⟨List.mem_of_getElem? (i := 1047) (by decide +kernel), by decide +kernel⟩, in_RX6, by decide +kernel⟩
theorem voX6_when : VOK mX6_when := ⟨List.mem_filter.mpr ⟨List.mem_of_getElem? (i := 1045) (by decide +kernel), by decide +kernel⟩, List.mem_filter.mpr ⟨List.mem_of_getElem? (i := 1046) (by decide +kernel), by decide +kernel⟩⟩
def mX6_tie : MT := (yX6_tie, cX6_tie, 2, some .int, 6)
theorem okX6_tie : MOK mX6_tie 0 := ⟨List.mem_filter.mpr ⟨List.mem_of_getElem? (i := 1052) (by decide +kernel), by decide +kernel⟩, in_RX6, by decide +kernel⟩
theorem voX6_tie : VOK mX6_tie := ⟨List.mem_filter.mpr ⟨List.mem_of_getElem? (i := 1050) (by decide +kernel), by decide +kernel⟩, List.mem_filter.mpr ⟨List.mem_of_getElem? (i := 1051) (by decide +kernel), by decide +kernel⟩⟩
def mX6_turns : MT := (yX6_turns, cX6_turns, 4, some .int, 7)
theorem okX6_turns : MOK mX6_turns 1 := ⟨List.mem_filter.mpr ⟨List.mem_of_getElem? (i := 1059) (by decide +kernel), by decide +kernel⟩, in_RX6, by decide +kernel⟩
theorem voX6_turns : VOK mX6_turns := ⟨List.mem_filter.mpr ⟨List.mem_of_getElem? (i := 1057) (by decide +kernel), by decide +kernel⟩, List.mem_filter.mpr ⟨List.mem_of_getElem? (i := 1058) (by decide +kernel), by decide +kernel⟩⟩
def mX6_isLast : MT := (yX6_isLast, cX6_isLast, 2, some .boolean, 5)
theorem okX6_isLast : MOK mX6_isLast 1 := ⟨List.mem_filter.mpr ⟨List.mem_of_getElem? (i := 1067) (by decide +kernel), by decide +kernel⟩, in_RX6, by decide +kernel⟩
theorem voX6_isLast : VOK mX6_isLast := ⟨List.mem_filter.mpr ⟨List.mem_of_getElem? (i := 1066) (by decide +kernel), by decide +kernel⟩, List.mem_filter.mpr ⟨List.mem_of_getElem? (i := 33) (by decide +kernel), by decide +kernel⟩⟩
def mX6_mostHands : MT := (yX6_mostHands, cX6_mostHands, 5, some .int, 6)
theorem okX6_mostHands : MOK mX6_mostHands 1 := ⟨List.mem_filter.mpr ⟨List.mem_of_getElem? (i := 1063) (by decide +kernel), by decide +kernel⟩, in_RX6, by decide +kernel⟩
theorem voX6_mostHands : VOK mX6_mostHands := ⟨List.mem_filter.mpr ⟨List.mem_of_getElem? (i := 1061) (by decide +kernel), by decide +kernel⟩, List.mem_filter.mpr ⟨List.mem_of_getElem? (i := 1062) (by decide +kernel), by decide +kernel⟩⟩
def mX6_fewestHands : MT := (yX6_fewestHands, cX6_fewestHands, 6, some .int, 4)
theorem okX6_fewestHands : MOK mX6_fewestHands 1 := ⟨List.mem_filter.mpr ⟨List.mem_of_getElem? (i := 1071) (by decide +kernel), by decide +kernel⟩, in_RX6, by decide +kernel⟩
theorem voX6_fewestHands : VOK mX6_fewestHands := ⟨List.mem_filter.mpr ⟨List.mem_of_getElem? (i := 1069) (by decide +kernel), by decide +kernel⟩, List.mem_filter.mpr ⟨List.mem_of_getElem? (i := 1070) (by decide +kernel), by decide +kernel⟩⟩
def mX6_lend : MT := (yX6_lend, cX6_lend, 6, some .int, 6)
theorem okX6_lend : MOK mX6_lend 1 := ⟨List.mem_filter.mpr ⟨List.mem_of_getElem? (i := 1079) (by decide +kernel), by decide +kernel⟩, in_RX6, by decide +kernel⟩
theorem voX6_lend : VOK mX6_lend := ⟨List.mem_filter.mpr ⟨List.mem_of_getElem? (i := 1077) (by decide +kernel), by decide +kernel⟩, List.mem_filter.mpr ⟨List.mem_of_getElem? (i := 1078) (by decide +kernel), by decide +kernel⟩⟩
def mX6_kinds : MT := (yX6_kinds, cX6_kinds, 6, some .int, 6)
theorem okX6_kinds : MOK mX6_kinds 1 := ⟨List.mem_filter.mpr ⟨List.mem_of_getElem? (i := 1083) (by decide +kernel), by decide +kernel⟩, in_RX6, by decide +kernel⟩
theorem voX6_kinds : VOK mX6_kinds := ⟨List.mem_filter.mpr ⟨List.mem_of_getElem? (i := 1081) (by decide +kernel), by decide +kernel⟩, List.mem_filter.mpr ⟨List.mem_of_getElem? (i := 1082) (by decide +kernel), by decide +kernel⟩⟩
def mX6_wetFor : MT := (yX6_wetFor, cX6_wetFor, 4, some .int, 6)
theorem okX6_wetFor : MOK mX6_wetFor 1 := ⟨List.mem_filter.mpr ⟨List.mem_of_getElem? (i := 1087) (by decide +kernel), by decide +kernel⟩, in_RX6, by decide +kernel⟩
theorem voX6_wetFor : VOK mX6_wetFor := ⟨List.mem_filter.mpr ⟨List.mem_of_getElem? (i := 1085) (by decide +kernel), by decide +kernel⟩, List.mem_filter.mpr ⟨List.mem_of_getElem? (i := 1086) (by decide +kernel), by decide +kernel⟩⟩
def mX6_tell : MT := (yX6_tell, cX6_tell, 7, some .int, 5)
theorem okX6_tell : MOK mX6_tell 2 := ⟨List.mem_filter.mpr ⟨List.mem_of_getElem? (i := 1091) (by decide +kernel), by decide +kernel⟩, in_RX6, by decide +kernel⟩
theorem voX6_tell : VOK mX6_tell := ⟨List.mem_filter.mpr ⟨List.mem_of_getElem? (i := 1089) (by decide +kernel), by decide +kernel⟩, List.mem_filter.mpr ⟨List.mem_of_getElem? (i := 1090) (by decide +kernel), by decide +kernel⟩⟩
def mX6_voice : MT := (yX6_voice, cX6_voice, 8, some .int, 5)
theorem okX6_voice : MOK mX6_voice 0 := ⟨List.mem_filter.mpr ⟨List.mem_of_getElem? (i := 1095) (by decide +kernel), by decide +kernel⟩, in_RX6, by decide +kernel⟩
theorem voX6_voice : VOK mX6_voice := ⟨List.mem_filter.mpr ⟨List.mem_of_getElem? (i := 1093) (by decide +kernel), by decide +kernel⟩, List.mem_filter.mpr ⟨List.mem_of_getElem? (i := 1094) (by decide +kernel), by decide +kernel⟩⟩
def mX6_miceFor : MT := (yX6_miceFor, cX6_miceFor, 7, some .int, 5)
theorem okX6_miceFor : MOK mX6_miceFor 2 := ⟨List.mem_filter.mpr ⟨List.mem_of_getElem? (i := 1099) (by decide +kernel), by decide +kernel⟩, in_RX6, by decide +kernel⟩
theorem voX6_miceFor : VOK mX6_miceFor := ⟨List.mem_filter.mpr ⟨List.mem_of_getElem? (i := 1097) (by decide +kernel), by decide +kernel⟩, List.mem_filter.mpr ⟨List.mem_of_getElem? (i := 1098) (by decide +kernel), by decide +kernel⟩⟩
def mX6_findsCuts : MT := (yX6_findsCuts, cX6_findsCuts, 5, none, 0)
theorem okX6_findsCuts : MOK mX6_findsCuts 2 := ⟨List.mem_filter.mpr ⟨List.mem_of_getElem? (i := 1111) (by decide +kernel), by decide +kernel⟩, in_RX6, by decide +kernel⟩
theorem voX6_findsCuts : VOK mX6_findsCuts := ⟨List.mem_filter.mpr ⟨List.mem_of_getElem? (i := 1110) (by decide +kernel), by decide +kernel⟩, List.mem_filter.mpr ⟨List.mem_of_getElem? (i := 35) (by decide +kernel), by decide +kernel⟩⟩
def mX6_isCut : MT := (yX6_isCut, cX6_isCut, 2, some .boolean, 1)
theorem okX6_isCut : MOK mX6_isCut 2 := ⟨List.mem_filter.mpr ⟨List.mem_of_getElem? (i := 1106) (by decide +kernel), by decide +kernel⟩, in_RX6, by decide +kernel⟩
theorem stX6_isCut : Cond.static mX6_isCut.1 ∈ tb := List.mem_filter.mpr ⟨List.mem_of_getElem? (i := 1105) (by decide +kernel), by decide +kernel⟩
def mX6_wins : MT := (yX6_wins, cX6_wins, 3, some .int, 2)
theorem okX6_wins : MOK mX6_wins 2 := ⟨List.mem_filter.mpr ⟨List.mem_of_getElem? (i := 1103) (by decide +kernel), by decide +kernel⟩, in_RX6, by decide +kernel⟩
theorem voX6_wins : VOK mX6_wins := ⟨List.mem_filter.mpr ⟨List.mem_of_getElem? (i := 1101) (by decide +kernel), by decide +kernel⟩, List.mem_filter.mpr ⟨List.mem_of_getElem? (i := 1102) (by decide +kernel), by decide +kernel⟩⟩
def mX6_cut : MT := (yX6_cut, cX6_cut, 3, some .int, 2)
theorem okX6_cut : MOK mX6_cut 2 := ⟨List.mem_filter.mpr ⟨List.mem_of_getElem? (i := 1115) (by decide +kernel), by decide +kernel⟩, in_RX6, by decide +kernel⟩
theorem voX6_cut : VOK mX6_cut := ⟨List.mem_filter.mpr ⟨List.mem_of_getElem? (i := 1113) (by decide +kernel), by decide +kernel⟩, List.mem_filter.mpr ⟨List.mem_of_getElem? (i := 1114) (by decide +kernel), by decide +kernel⟩⟩
def mX6_isTold : MT := (yX6_isTold, cX6_isTold, 5, some .boolean, 6)
theorem okX6_isTold : MOK mX6_isTold 1 := ⟨List.mem_filter.mpr ⟨List.mem_of_getElem? (i := 1139) (by decide +kernel), by decide +kernel⟩, in_RX6, by decide +kernel⟩
theorem voX6_isTold : VOK mX6_isTold := ⟨List.mem_filter.mpr ⟨List.mem_of_getElem? (i := 1138) (by decide +kernel), by decide +kernel⟩, List.mem_filter.mpr ⟨List.mem_of_getElem? (i := 39) (by decide +kernel), by decide +kernel⟩⟩
def mX6_findsFits : MT := (yX6_findsFits, cX6_findsFits, 6, none, 7)
theorem okX6_findsFits : MOK mX6_findsFits 2 := ⟨List.mem_filter.mpr ⟨List.mem_of_getElem? (i := 1135) (by decide +kernel), by decide +kernel⟩, in_RX6, by decide +kernel⟩
theorem voX6_findsFits : VOK mX6_findsFits := ⟨List.mem_filter.mpr ⟨List.mem_of_getElem? (i := 1134) (by decide +kernel), by decide +kernel⟩, List.mem_filter.mpr ⟨List.mem_of_getElem? (i := 38) (by decide +kernel), by decide +kernel⟩⟩
def mX6_wantsFor : MT := (yX6_wantsFor, cX6_wantsFor, 3, some .int, 2)
theorem okX6_wantsFor : MOK mX6_wantsFor 2 := ⟨List.mem_filter.mpr ⟨List.mem_of_getElem? (i := 1123) (by decide +kernel), by decide +kernel⟩, in_RX6, by decide +kernel⟩
theorem voX6_wantsFor : VOK mX6_wantsFor := ⟨List.mem_filter.mpr ⟨List.mem_of_getElem? (i := 1122) (by decide +kernel), by decide +kernel⟩, List.mem_filter.mpr ⟨List.mem_of_getElem? (i := 36) (by decide +kernel), by decide +kernel⟩⟩
def mX6_fits : MT := (yX6_fits, cX6_fits, 4, some .int, 8)
theorem okX6_fits : MOK mX6_fits 2 := ⟨List.mem_filter.mpr ⟨List.mem_of_getElem? (i := 1119) (by decide +kernel), by decide +kernel⟩, in_RX6, by decide +kernel⟩
theorem voX6_fits : VOK mX6_fits := ⟨List.mem_filter.mpr ⟨List.mem_of_getElem? (i := 1117) (by decide +kernel), by decide +kernel⟩, List.mem_filter.mpr ⟨List.mem_of_getElem? (i := 1118) (by decide +kernel), by decide +kernel⟩⟩
def mX6_thinks : MT := (yX6_thinks, cX6_thinks, 4, some .int, 8)
theorem okX6_thinks : MOK mX6_thinks 2 := ⟨List.mem_filter.mpr ⟨List.mem_of_getElem? (i := 1143) (by decide +kernel), by decide +kernel⟩, in_RX6, by decide +kernel⟩
theorem voX6_thinks : VOK mX6_thinks := ⟨List.mem_filter.mpr ⟨List.mem_of_getElem? (i := 1141) (by decide +kernel), by decide +kernel⟩, List.mem_filter.mpr ⟨List.mem_of_getElem? (i := 1142) (by decide +kernel), by decide +kernel⟩⟩
def mX6_draw : MT := (yX6_draw, cX6_draw, 1, some .int, 0)
theorem okX6_draw : MOK mX6_draw 0 := ⟨List.mem_filter.mpr ⟨List.mem_of_getElem? (i := 1151) (by decide +kernel), by decide +kernel⟩, in_RX6, by decide +kernel⟩
theorem voX6_draw : VOK mX6_draw := ⟨List.mem_filter.mpr ⟨List.mem_of_getElem? (i := 1150) (by decide +kernel), by decide +kernel⟩, List.mem_filter.mpr ⟨List.mem_of_getElem? (i := 40) (by decide +kernel), by decide +kernel⟩⟩
def mX6_weathers : MT := (yX6_weathers, cX6_weathers, 3, some .int, 6)
theorem okX6_weathers : MOK mX6_weathers 1 := ⟨List.mem_filter.mpr ⟨List.mem_of_getElem? (i := 1147) (by decide +kernel), by decide +kernel⟩, in_RX6, by decide +kernel⟩
theorem voX6_weathers : VOK mX6_weathers := ⟨List.mem_filter.mpr ⟨List.mem_of_getElem? (i := 1145) (by decide +kernel), by decide +kernel⟩, List.mem_filter.mpr ⟨List.mem_of_getElem? (i := 1146) (by decide +kernel), by decide +kernel⟩⟩
def mX6_odds : MT := (yX6_odds, cX6_odds, 6, some .long, 1)
theorem okX6_odds : MOK mX6_odds 2 := ⟨List.mem_filter.mpr ⟨List.mem_of_getElem? (i := 1156) (by decide +kernel), by decide +kernel⟩, in_RX6, by decide +kernel⟩
theorem voX6_odds : VOK mX6_odds := ⟨List.mem_filter.mpr ⟨List.mem_of_getElem? (i := 1154) (by decide +kernel), by decide +kernel⟩, List.mem_filter.mpr ⟨List.mem_of_getElem? (i := 1155) (by decide +kernel), by decide +kernel⟩⟩
def mX6_seed : MT := (yX6_seed, cX6_seed, 2, some .int, 1)
theorem okX6_seed : MOK mX6_seed 1 := ⟨List.mem_filter.mpr ⟨List.mem_of_getElem? (i := 1163) (by decide +kernel), by decide +kernel⟩, in_RX6, by decide +kernel⟩
theorem voX6_seed : VOK mX6_seed := ⟨List.mem_filter.mpr ⟨List.mem_of_getElem? (i := 1161) (by decide +kernel), by decide +kernel⟩, List.mem_filter.mpr ⟨List.mem_of_getElem? (i := 1162) (by decide +kernel), by decide +kernel⟩⟩
def mX6_feed : MT := (yX6_feed, cX6_feed, 4, some .int, 1)
theorem okX6_feed : MOK mX6_feed 2 := ⟨List.mem_filter.mpr ⟨List.mem_of_getElem? (i := 1167) (by decide +kernel), by decide +kernel⟩, in_RX6, by decide +kernel⟩
theorem voX6_feed : VOK mX6_feed := ⟨List.mem_filter.mpr ⟨List.mem_of_getElem? (i := 1165) (by decide +kernel), by decide +kernel⟩, List.mem_filter.mpr ⟨List.mem_of_getElem? (i := 1166) (by decide +kernel), by decide +kernel⟩⟩
def mX6_wipe : MT := (yX6_wipe, cX6_wipe, 2, some .int, 0)
theorem okX6_wipe : MOK mX6_wipe 0 := ⟨List.mem_filter.mpr ⟨List.mem_of_getElem? (i := 1171) (by decide +kernel), by decide +kernel⟩, in_RX6, by decide +kernel⟩
theorem voX6_wipe : VOK mX6_wipe := ⟨List.mem_filter.mpr ⟨List.mem_of_getElem? (i := 1169) (by decide +kernel), by decide +kernel⟩, List.mem_filter.mpr ⟨List.mem_of_getElem? (i := 1170) (by decide +kernel), by decide +kernel⟩⟩
def mX6_isLetter : MT := (yX6_isLetter, cX6_isLetter, 1, some .boolean, 0)
theorem okX6_isLetter : MOK mX6_isLetter 1 := ⟨List.mem_filter.mpr ⟨List.mem_of_getElem? (i := 1186) (by decide +kernel), by decide +kernel⟩, in_RX6, by decide +kernel⟩
theorem stX6_isLetter : Cond.static mX6_isLetter.1 ∈ tb := List.mem_filter.mpr ⟨List.mem_of_getElem? (i := 1185) (by decide +kernel), by decide +kernel⟩
def mX6_isDigit : MT := (yX6_isDigit, cX6_isDigit, 1, some .boolean, 0)
theorem okX6_isDigit : MOK mX6_isDigit 1 := ⟨List.mem_filter.mpr ⟨List.mem_of_getElem? (i := 1189) (by decide +kernel), by decide +kernel⟩, in_RX6, by decide +kernel⟩
theorem stX6_isDigit : Cond.static mX6_isDigit.1 ∈ tb := List.mem_filter.mpr ⟨List.mem_of_getElem? (i := 1188) (by decide +kernel), by decide +kernel⟩
def mX6_byteAt : MT := (yX6_byteAt, cX6_byteAt, 2, some .int, 0)
theorem okX6_byteAt : MOK mX6_byteAt 1 := ⟨List.mem_filter.mpr ⟨List.mem_of_getElem? (i := 1183) (by decide +kernel), by decide +kernel⟩, in_RX6, by decide +kernel⟩
theorem voX6_byteAt : VOK mX6_byteAt := ⟨List.mem_filter.mpr ⟨List.mem_of_getElem? (i := 1182) (by decide +kernel), by decide +kernel⟩, List.mem_filter.mpr ⟨List.mem_of_getElem? (i := 42) (by decide +kernel), by decide +kernel⟩⟩
def mX6_nextToken : MT := (yX6_nextToken, cX6_nextToken, 2, none, 1)
theorem okX6_nextToken : MOK mX6_nextToken 0 := ⟨List.mem_filter.mpr ⟨List.mem_of_getElem? (i := 1179) (by decide +kernel), by decide +kernel⟩, in_RX6, by decide +kernel⟩
theorem voX6_nextToken : VOK mX6_nextToken := ⟨List.mem_filter.mpr ⟨List.mem_of_getElem? (i := 1178) (by decide +kernel), by decide +kernel⟩, List.mem_filter.mpr ⟨List.mem_of_getElem? (i := 41) (by decide +kernel), by decide +kernel⟩⟩
def mX6_has3 : MT := (yX6_has3, cX6_has3, 5, some .boolean, 1)
theorem okX6_has3 : MOK mX6_has3 4 := ⟨List.mem_filter.mpr ⟨List.mem_of_getElem? (i := 1209) (by decide +kernel), by decide +kernel⟩, in_RX6, by decide +kernel⟩
theorem voX6_has3 : VOK mX6_has3 := ⟨List.mem_filter.mpr ⟨List.mem_of_getElem? (i := 1208) (by decide +kernel), by decide +kernel⟩, List.mem_filter.mpr ⟨List.mem_of_getElem? (i := 47) (by decide +kernel), by decide +kernel⟩⟩
def mX6_isWord : MT := (yX6_isWord, cX6_isWord, 2, some .boolean, 0)
theorem okX6_isWord : MOK mX6_isWord 1 := ⟨List.mem_filter.mpr ⟨List.mem_of_getElem? (i := 1205) (by decide +kernel), by decide +kernel⟩, in_RX6, by decide +kernel⟩
theorem voX6_isWord : VOK mX6_isWord := ⟨List.mem_filter.mpr ⟨List.mem_of_getElem? (i := 1204) (by decide +kernel), by decide +kernel⟩, List.mem_filter.mpr ⟨List.mem_of_getElem? (i := 46) (by decide +kernel), by decide +kernel⟩⟩
def mX6_fails : MT := (yX6_fails, cX6_fails, 1, some .boolean, 0)
theorem okX6_fails : MOK mX6_fails 0 := ⟨List.mem_filter.mpr ⟨List.mem_of_getElem? (i := 1221) (by decide +kernel), by decide +kernel⟩, in_RX6, by decide +kernel⟩
theorem voX6_fails : VOK mX6_fails := ⟨List.mem_filter.mpr ⟨List.mem_of_getElem? (i := 1220) (by decide +kernel), by decide +kernel⟩, List.mem_filter.mpr ⟨List.mem_of_getElem? (i := 50) (by decide +kernel), by decide +kernel⟩⟩
def mX6_isFour : MT := (yX6_isFour, cX6_isFour, 5, some .boolean, 2)
theorem okX6_isFour : MOK mX6_isFour 4 := ⟨List.mem_filter.mpr ⟨List.mem_of_getElem? (i := 1201) (by decide +kernel), by decide +kernel⟩, in_RX6, by decide +kernel⟩
theorem voX6_isFour : VOK mX6_isFour := ⟨List.mem_filter.mpr ⟨List.mem_of_getElem? (i := 1200) (by decide +kernel), by decide +kernel⟩, List.mem_filter.mpr ⟨List.mem_of_getElem? (i := 45) (by decide +kernel), by decide +kernel⟩⟩
def mX6_isFive : MT := (yX6_isFive, cX6_isFive, 6, some .boolean, 2)
theorem okX6_isFive : MOK mX6_isFive 5 := ⟨List.mem_filter.mpr ⟨List.mem_of_getElem? (i := 1213) (by decide +kernel), by decide +kernel⟩, in_RX6, by decide +kernel⟩
theorem voX6_isFive : VOK mX6_isFive := ⟨List.mem_filter.mpr ⟨List.mem_of_getElem? (i := 1212) (by decide +kernel), by decide +kernel⟩, List.mem_filter.mpr ⟨List.mem_of_getElem? (i := 48) (by decide +kernel), by decide +kernel⟩⟩
def mX6_isSix : MT := (yX6_isSix, cX6_isSix, 7, some .boolean, 2)
theorem okX6_isSix : MOK mX6_isSix 6 := ⟨List.mem_filter.mpr ⟨List.mem_of_getElem? (i := 1237) (by decide +kernel), by decide +kernel⟩, in_RX6, by decide +kernel⟩
theorem voX6_isSix : VOK mX6_isSix := ⟨List.mem_filter.mpr ⟨List.mem_of_getElem? (i := 1236) (by decide +kernel), by decide +kernel⟩, List.mem_filter.mpr ⟨List.mem_of_getElem? (i := 54) (by decide +kernel), by decide +kernel⟩⟩
def mX6_isNumber : MT := (yX6_isNumber, cX6_isNumber, 3, some .boolean, 1)
theorem okX6_isNumber : MOK mX6_isNumber 2 := ⟨List.mem_filter.mpr ⟨List.mem_of_getElem? (i := 1225) (by decide +kernel), by decide +kernel⟩, in_RX6, by decide +kernel⟩
theorem voX6_isNumber : VOK mX6_isNumber := ⟨List.mem_filter.mpr ⟨List.mem_of_getElem? (i := 1224) (by decide +kernel), by decide +kernel⟩, List.mem_filter.mpr ⟨List.mem_of_getElem? (i := 51) (by decide +kernel), by decide +kernel⟩⟩
def mX6_kindHere : MT := (yX6_kindHere, cX6_kindHere, 1, some .int, 3)
theorem okX6_kindHere : MOK mX6_kindHere 0 := ⟨List.mem_filter.mpr ⟨List.mem_of_getElem? (i := 1197) (by decide +kernel), by decide +kernel⟩, in_RX6, by decide +kernel⟩
theorem voX6_kindHere : VOK mX6_kindHere := ⟨List.mem_filter.mpr ⟨List.mem_of_getElem? (i := 1196) (by decide +kernel), by decide +kernel⟩, List.mem_filter.mpr ⟨List.mem_of_getElem? (i := 44) (by decide +kernel), by decide +kernel⟩⟩
def mX6_handsHere : MT := (yX6_handsHere, cX6_handsHere, 1, some .boolean, 3)
theorem okX6_handsHere : MOK mX6_handsHere 0 := ⟨List.mem_filter.mpr ⟨List.mem_of_getElem? (i := 1229) (by decide +kernel), by decide +kernel⟩, in_RX6, by decide +kernel⟩
theorem voX6_handsHere : VOK mX6_handsHere := ⟨List.mem_filter.mpr ⟨List.mem_of_getElem? (i := 1228) (by decide +kernel), by decide +kernel⟩, List.mem_filter.mpr ⟨List.mem_of_getElem? (i := 52) (by decide +kernel), by decide +kernel⟩⟩
def mX6_thinksHere : MT := (yX6_thinksHere, cX6_thinksHere, 2, some .boolean, 3)
theorem okX6_thinksHere : MOK mX6_thinksHere 0 := ⟨List.mem_filter.mpr ⟨List.mem_of_getElem? (i := 1233) (by decide +kernel), by decide +kernel⟩, in_RX6, by decide +kernel⟩
theorem voX6_thinksHere : VOK mX6_thinksHere := ⟨List.mem_filter.mpr ⟨List.mem_of_getElem? (i := 1232) (by decide +kernel), by decide +kernel⟩, List.mem_filter.mpr ⟨List.mem_of_getElem? (i := 53) (by decide +kernel), by decide +kernel⟩⟩
def mX6_farmHere : MT := (yX6_farmHere, cX6_farmHere, 2, some .boolean, 4)
theorem okX6_farmHere : MOK mX6_farmHere 1 := ⟨List.mem_filter.mpr ⟨List.mem_of_getElem? (i := 1217) (by decide +kernel), by decide +kernel⟩, in_RX6, by decide +kernel⟩
theorem voX6_farmHere : VOK mX6_farmHere := ⟨List.mem_filter.mpr ⟨List.mem_of_getElem? (i := 1216) (by decide +kernel), by decide +kernel⟩, List.mem_filter.mpr ⟨List.mem_of_getElem? (i := 49) (by decide +kernel), by decide +kernel⟩⟩
def mX6_weatherHere : MT := (yX6_weatherHere, cX6_weatherHere, 2, some .boolean, 2)
theorem okX6_weatherHere : MOK mX6_weatherHere 1 := ⟨List.mem_filter.mpr ⟨List.mem_of_getElem? (i := 1241) (by decide +kernel), by decide +kernel⟩, in_RX6, by decide +kernel⟩
theorem voX6_weatherHere : VOK mX6_weatherHere := ⟨List.mem_filter.mpr ⟨List.mem_of_getElem? (i := 1240) (by decide +kernel), by decide +kernel⟩, List.mem_filter.mpr ⟨List.mem_of_getElem? (i := 55) (by decide +kernel), by decide +kernel⟩⟩
def mX6_itemHere : MT := (yX6_itemHere, cX6_itemHere, 2, some .boolean, 5)
theorem okX6_itemHere : MOK mX6_itemHere 0 := ⟨List.mem_filter.mpr ⟨List.mem_of_getElem? (i := 1193) (by decide +kernel), by decide +kernel⟩, in_RX6, by decide +kernel⟩
theorem voX6_itemHere : VOK mX6_itemHere := ⟨List.mem_filter.mpr ⟨List.mem_of_getElem? (i := 1192) (by decide +kernel), by decide +kernel⟩, List.mem_filter.mpr ⟨List.mem_of_getElem? (i := 43) (by decide +kernel), by decide +kernel⟩⟩
def mX6_text : MT := (yX6_text, cX6_text, 3, some .int, 6)
theorem okX6_text : MOK mX6_text 0 := ⟨List.mem_filter.mpr ⟨List.mem_of_getElem? (i := 1175) (by decide +kernel), by decide +kernel⟩, in_RX6, by decide +kernel⟩
theorem voX6_text : VOK mX6_text := ⟨List.mem_filter.mpr ⟨List.mem_of_getElem? (i := 1173) (by decide +kernel), by decide +kernel⟩, List.mem_filter.mpr ⟨List.mem_of_getElem? (i := 1174) (by decide +kernel), by decide +kernel⟩⟩
def mX6_hold : MT := (yX6_hold, cX6_hold, 3, some .int, 1)
theorem okX6_hold : MOK mX6_hold 2 := ⟨List.mem_filter.mpr ⟨List.mem_of_getElem? (i := 1245) (by decide +kernel), by decide +kernel⟩, in_RX6, by decide +kernel⟩
theorem voX6_hold : VOK mX6_hold := ⟨List.mem_filter.mpr ⟨List.mem_of_getElem? (i := 1243) (by decide +kernel), by decide +kernel⟩, List.mem_filter.mpr ⟨List.mem_of_getElem? (i := 1244) (by decide +kernel), by decide +kernel⟩⟩
def mX6_isUnder : MT := (yX6_isUnder, cX6_isUnder, 2, some .boolean, 0)
theorem okX6_isUnder : MOK mX6_isUnder 2 := ⟨List.mem_filter.mpr ⟨List.mem_of_getElem? (i := 1252) (by decide +kernel), by decide +kernel⟩, in_RX6, by decide +kernel⟩
theorem stX6_isUnder : Cond.static mX6_isUnder.1 ∈ tb := List.mem_filter.mpr ⟨List.mem_of_getElem? (i := 1251) (by decide +kernel), by decide +kernel⟩
def mX6_as : MT := (yX6_as, cX6_as, 4, some .int, 1)
theorem okX6_as : MOK mX6_as 2 := ⟨List.mem_filter.mpr ⟨List.mem_of_getElem? (i := 1249) (by decide +kernel), by decide +kernel⟩, in_RX6, by decide +kernel⟩
theorem voX6_as : VOK mX6_as := ⟨List.mem_filter.mpr ⟨List.mem_of_getElem? (i := 1247) (by decide +kernel), by decide +kernel⟩, List.mem_filter.mpr ⟨List.mem_of_getElem? (i := 1248) (by decide +kernel), by decide +kernel⟩⟩
def mX6_isSheet : MT := (yX6_isSheet, cX6_isSheet, 1, some .boolean, 0)
theorem okX6_isSheet : MOK mX6_isSheet 1 := ⟨List.mem_filter.mpr ⟨List.mem_of_getElem? (i := 1130) (by decide +kernel), by decide +kernel⟩, in_RX6, by decide +kernel⟩
theorem stX6_isSheet : Cond.static mX6_isSheet.1 ∈ tb := List.mem_filter.mpr ⟨List.mem_of_getElem? (i := 1129) (by decide +kernel), by decide +kernel⟩
def mX6_sheet : MT := (yX6_sheet, cX6_sheet, 5, some .int, 1)
theorem okX6_sheet : MOK mX6_sheet 3 := ⟨List.mem_filter.mpr ⟨List.mem_of_getElem? (i := 1257) (by decide +kernel), by decide +kernel⟩, in_RX6, by decide +kernel⟩
theorem voX6_sheet : VOK mX6_sheet := ⟨List.mem_filter.mpr ⟨List.mem_of_getElem? (i := 1255) (by decide +kernel), by decide +kernel⟩, List.mem_filter.mpr ⟨List.mem_of_getElem? (i := 1256) (by decide +kernel), by decide +kernel⟩⟩
def mX6_write : MT := (yX6_write, cX6_write, 4, some .int, 1)
theorem okX6_write : MOK mX6_write 3 := ⟨List.mem_filter.mpr ⟨List.mem_of_getElem? (i := 1262) (by decide +kernel), by decide +kernel⟩, in_RX6, by decide +kernel⟩
theorem voX6_write : VOK mX6_write := ⟨List.mem_filter.mpr ⟨List.mem_of_getElem? (i := 1260) (by decide +kernel), by decide +kernel⟩, List.mem_filter.mpr ⟨List.mem_of_getElem? (i := 1261) (by decide +kernel), by decide +kernel⟩⟩
def mX6_copy : MT := (yX6_copy, cX6_copy, 10, some .int, 1)
theorem okX6_copy : MOK mX6_copy 5 := ⟨List.mem_filter.mpr ⟨List.mem_of_getElem? (i := 1266) (by decide +kernel), by decide +kernel⟩, in_RX6, by decide +kernel⟩
theorem voX6_copy : VOK mX6_copy := ⟨List.mem_filter.mpr ⟨List.mem_of_getElem? (i := 1264) (by decide +kernel), by decide +kernel⟩, List.mem_filter.mpr ⟨List.mem_of_getElem? (i := 1265) (by decide +kernel), by decide +kernel⟩⟩
def mX6_wants : MT := (yX6_wants, cX6_wants, 2, some .int, 1)
theorem okX6_wants : MOK mX6_wants 1 := ⟨List.mem_filter.mpr ⟨List.mem_of_getElem? (i := 1127) (by decide +kernel), by decide +kernel⟩, in_RX6, by decide +kernel⟩
theorem voX6_wants : VOK mX6_wants := ⟨List.mem_filter.mpr ⟨List.mem_of_getElem? (i := 1126) (by decide +kernel), by decide +kernel⟩, List.mem_filter.mpr ⟨List.mem_of_getElem? (i := 37) (by decide +kernel), by decide +kernel⟩⟩
def mX6_load : MT := (yX6_load, cX6_load, 3, some .int, 2)
theorem okX6_load : MOK mX6_load 1 := ⟨List.mem_filter.mpr ⟨List.mem_of_getElem? (i := 1270) (by decide +kernel), by decide +kernel⟩, in_RX6, by decide +kernel⟩
theorem voX6_load : VOK mX6_load := ⟨List.mem_filter.mpr ⟨List.mem_of_getElem? (i := 1268) (by decide +kernel), by decide +kernel⟩, List.mem_filter.mpr ⟨List.mem_of_getElem? (i := 1269) (by decide +kernel), by decide +kernel⟩⟩
def mX6_judge : MT := (yX6_judge, cX6_judge, 3, some .int, 3)
theorem okX6_judge : MOK mX6_judge 1 := ⟨List.mem_filter.mpr ⟨List.mem_of_getElem? (i := 1274) (by decide +kernel), by decide +kernel⟩, in_RX6, by decide +kernel⟩
theorem voX6_judge : VOK mX6_judge := ⟨List.mem_filter.mpr ⟨List.mem_of_getElem? (i := 1272) (by decide +kernel), by decide +kernel⟩, List.mem_filter.mpr ⟨List.mem_of_getElem? (i := 1273) (by decide +kernel), by decide +kernel⟩⟩
def mX6_image : MT := (yX6_image, cX6_image, 1, some .int, 1)
theorem okX6_image : MOK mX6_image 0 := ⟨List.mem_filter.mpr ⟨List.mem_of_getElem? (i := 1278) (by decide +kernel), by decide +kernel⟩, in_RX6, by decide +kernel⟩
theorem voX6_image : VOK mX6_image := ⟨List.mem_filter.mpr ⟨List.mem_of_getElem? (i := 1276) (by decide +kernel), by decide +kernel⟩, List.mem_filter.mpr ⟨List.mem_of_getElem? (i := 1277) (by decide +kernel), by decide +kernel⟩⟩
def mX6_undo : MT := (yX6_undo, cX6_undo, 1, some .int, 1)
theorem okX6_undo : MOK mX6_undo 0 := ⟨List.mem_filter.mpr ⟨List.mem_of_getElem? (i := 1282) (by decide +kernel), by decide +kernel⟩, in_RX6, by decide +kernel⟩
theorem voX6_undo : VOK mX6_undo := ⟨List.mem_filter.mpr ⟨List.mem_of_getElem? (i := 1280) (by decide +kernel), by decide +kernel⟩, List.mem_filter.mpr ⟨List.mem_of_getElem? (i := 1281) (by decide +kernel), by decide +kernel⟩⟩
def mX6_tear : MT := (yX6_tear, cX6_tear, 2, some .int, 0)
theorem okX6_tear : MOK mX6_tear 0 := ⟨List.mem_filter.mpr ⟨List.mem_of_getElem? (i := 1286) (by decide +kernel), by decide +kernel⟩, in_RX6, by decide +kernel⟩
theorem voX6_tear : VOK mX6_tear := ⟨List.mem_filter.mpr ⟨List.mem_of_getElem? (i := 1284) (by decide +kernel), by decide +kernel⟩, List.mem_filter.mpr ⟨List.mem_of_getElem? (i := 1285) (by decide +kernel), by decide +kernel⟩⟩
def mX6_count : MT := (yX6_count, cX6_count, 4, some .int, 5)
theorem okX6_count : MOK mX6_count 1 := ⟨List.mem_filter.mpr ⟨List.mem_of_getElem? (i := 1290) (by decide +kernel), by decide +kernel⟩, in_RX6, by decide +kernel⟩
theorem voX6_count : VOK mX6_count := ⟨List.mem_filter.mpr ⟨List.mem_of_getElem? (i := 1288) (by decide +kernel), by decide +kernel⟩, List.mem_filter.mpr ⟨List.mem_of_getElem? (i := 1289) (by decide +kernel), by decide +kernel⟩⟩
def mX6_status : MT := (yX6_status, cX6_status, 2, some .int, 1)
theorem okX6_status : MOK mX6_status 1 := ⟨List.mem_filter.mpr ⟨List.mem_of_getElem? (i := 1294) (by decide +kernel), by decide +kernel⟩, in_RX6, by decide +kernel⟩
theorem voX6_status : VOK mX6_status := ⟨List.mem_filter.mpr ⟨List.mem_of_getElem? (i := 1292) (by decide +kernel), by decide +kernel⟩, List.mem_filter.mpr ⟨List.mem_of_getElem? (i := 1293) (by decide +kernel), by decide +kernel⟩⟩
def mJ6_bitCount_0f7a4 : MT := (yJ6_bitCount_0f7a4, cJ6_bitCount_0f7a4, 1, some .int, 0)
theorem okJ6_bitCount_0f7a4 : MOK mJ6_bitCount_0f7a4 1 := ⟨List.mem_filter.mpr ⟨List.mem_of_getElem? (i := 468) (by decide +kernel), by decide +kernel⟩, in_RJ6, by decide +kernel⟩
theorem stJ6_bitCount_0f7a4 : Cond.static mJ6_bitCount_0f7a4.1 ∈ tb := List.mem_filter.mpr ⟨List.mem_of_getElem? (i := 467) (by decide +kernel), by decide +kernel⟩
def mJ0_length_8abf5 : MT := (yJ0_length_8abf5, cJ0_length_8abf5, 1, some .int, 1)
theorem okJ0_length_8abf5 : MOK mJ0_length_8abf5 0 := ⟨List.mem_filter.mpr ⟨List.mem_of_getElem? (i := 638) (by decide +kernel), by decide +kernel⟩, in_RJ0, by decide +kernel⟩
theorem voJ0_length_8abf5 : VOK mJ0_length_8abf5 := ⟨List.mem_filter.mpr ⟨List.mem_of_getElem? (i := 636) (by decide +kernel), by decide +kernel⟩, List.mem_filter.mpr ⟨List.mem_of_getElem? (i := 637) (by decide +kernel), by decide +kernel⟩⟩
def mJ0_charAt_5068e : MT := (yJ0_charAt_5068e, cJ0_charAt_5068e, 2, some .char, 4)
theorem okJ0_charAt_5068e : MOK mJ0_charAt_5068e 1 := ⟨List.mem_filter.mpr ⟨List.mem_of_getElem? (i := 648) (by decide +kernel), by decide +kernel⟩, in_RJ0, by decide +kernel⟩
theorem voJ0_charAt_5068e : VOK mJ0_charAt_5068e := ⟨List.mem_filter.mpr ⟨List.mem_of_getElem? (i := 646) (by decide +kernel), by decide +kernel⟩, List.mem_filter.mpr ⟨List.mem_of_getElem? (i := 647) (by decide +kernel), by decide +kernel⟩⟩
def mJ0_coder_7d493 : MT := (yJ0_coder_7d493, cJ0_coder_7d493, 1, some .byte, 0)
theorem okJ0_coder_7d493 : MOK mJ0_coder_7d493 0 := ⟨List.mem_filter.mpr ⟨List.mem_of_getElem? (i := 642) (by decide +kernel), by decide +kernel⟩, in_RJ0, by decide +kernel⟩
theorem voJ0_coder_7d493 : VOK mJ0_coder_7d493 := ⟨List.mem_filter.mpr ⟨List.mem_of_getElem? (i := 640) (by decide +kernel), by decide +kernel⟩, List.mem_filter.mpr ⟨List.mem_of_getElem? (i := 641) (by decide +kernel), by decide +kernel⟩⟩
def mJ0_isLatin1_aae02 : MT := (yJ0_isLatin1_aae02, cJ0_isLatin1_aae02, 1, some .boolean, 0)
theorem okJ0_isLatin1_aae02 : MOK mJ0_isLatin1_aae02 0 := ⟨List.mem_filter.mpr ⟨List.mem_of_getElem? (i := 652) (by decide +kernel), by decide +kernel⟩, in_RJ0, by decide +kernel⟩
theorem voJ0_isLatin1_aae02 : VOK mJ0_isLatin1_aae02 := ⟨List.mem_filter.mpr ⟨List.mem_of_getElem? (i := 650) (by decide +kernel), by decide +kernel⟩, List.mem_filter.mpr ⟨List.mem_of_getElem? (i := 651) (by decide +kernel), by decide +kernel⟩⟩
def mJ0_checkIndex_df160 : MT := (yJ0_checkIndex_df160, cJ0_checkIndex_df160, 2, none, 1)
theorem okJ0_checkIndex_df160 : MOK mJ0_checkIndex_df160 2 := ⟨List.mem_filter.mpr ⟨List.mem_of_getElem? (i := 658) (by decide +kernel), by decide +kernel⟩, in_RJ0, by decide +kernel⟩
theorem stJ0_checkIndex_df160 : Cond.static mJ0_checkIndex_df160.1 ∈ tb := List.mem_filter.mpr ⟨List.mem_of_getElem? (i := 657) (by decide +kernel), by decide +kernel⟩
def mJ1_charAt_3b067 : MT := (yJ1_charAt_3b067, cJ1_charAt_3b067, 2, some .char, 2)
theorem okJ1_charAt_3b067 : MOK mJ1_charAt_3b067 2 := ⟨List.mem_filter.mpr ⟨List.mem_of_getElem? (i := 655) (by decide +kernel), by decide +kernel⟩, in_RJ1, by decide +kernel⟩
theorem stJ1_charAt_3b067 : Cond.static mJ1_charAt_3b067.1 ∈ tb := List.mem_filter.mpr ⟨List.mem_of_getElem? (i := 654) (by decide +kernel), by decide +kernel⟩
def mJ2_getChar_3b067 : MT := (yJ2_getChar_3b067, cJ2_getChar_3b067, 2, some .char, 1)
theorem okJ2_getChar_3b067 : MOK mJ2_getChar_3b067 2 := ⟨List.mem_filter.mpr ⟨List.mem_of_getElem? (i := 676) (by decide +kernel), by decide +kernel⟩, in_RJ2, by decide +kernel⟩
theorem stJ2_getChar_3b067 : Cond.static mJ2_getChar_3b067.1 ∈ tb := List.mem_filter.mpr ⟨List.mem_of_getElem? (i := 675) (by decide +kernel), by decide +kernel⟩
def mJ2_length_9d52b : MT := (yJ2_length_9d52b, cJ2_length_9d52b, 1, some .int, 0)
theorem okJ2_length_9d52b : MOK mJ2_length_9d52b 1 := ⟨List.mem_filter.mpr ⟨List.mem_of_getElem? (i := 672) (by decide +kernel), by decide +kernel⟩, in_RJ2, by decide +kernel⟩
theorem stJ2_length_9d52b : Cond.static mJ2_length_9d52b.1 ∈ tb := List.mem_filter.mpr ⟨List.mem_of_getElem? (i := 671) (by decide +kernel), by decide +kernel⟩
def mJ2_charAt_3b067 : MT := (yJ2_charAt_3b067, cJ2_charAt_3b067, 2, some .char, 3)
theorem okJ2_charAt_3b067 : MOK mJ2_charAt_3b067 2 := ⟨List.mem_filter.mpr ⟨List.mem_of_getElem? (i := 666) (by decide +kernel), by decide +kernel⟩, in_RJ2, by decide +kernel⟩
theorem stJ2_charAt_3b067 : Cond.static mJ2_charAt_3b067.1 ∈ tb := List.mem_filter.mpr ⟨List.mem_of_getElem? (i := 665) (by decide +kernel), by decide +kernel⟩
def mJ2_checkIndex_2214a : MT := (yJ2_checkIndex_2214a, cJ2_checkIndex_2214a, 2, none, 2)
theorem okJ2_checkIndex_2214a : MOK mJ2_checkIndex_2214a 2 := ⟨List.mem_filter.mpr ⟨List.mem_of_getElem? (i := 669) (by decide +kernel), by decide +kernel⟩, in_RJ2, by decide +kernel⟩
theorem stJ2_checkIndex_2214a : Cond.static mJ2_checkIndex_2214a.1 ∈ tb := List.mem_filter.mpr ⟨List.mem_of_getElem? (i := 668) (by decide +kernel), by decide +kernel⟩
def mJ3_checkIndex_8e157 : MT := (yJ3_checkIndex_8e157, cJ3_checkIndex_8e157, 3, some .int, 0)
theorem okJ3_checkIndex_8e157 : MOK mJ3_checkIndex_8e157 3 := ⟨List.mem_filter.mpr ⟨List.mem_of_getElem? (i := 663) (by decide +kernel), by decide +kernel⟩, in_RJ3, by decide +kernel⟩
theorem stJ3_checkIndex_8e157 : Cond.static mJ3_checkIndex_8e157.1 ∈ tb := List.mem_filter.mpr ⟨List.mem_of_getElem? (i := 662) (by decide +kernel), by decide +kernel⟩
end
section
/-! links, by place -/
theorem fRX5_10 : FLk RX5 10 5 0 := Or.inl (List.mem_filter.mpr ⟨List.mem_of_getElem? (i := 210) (by decide +kernel), by decide +kernel⟩)
theorem fRX5_16 : FLk RX5 16 5 1 := Or.inl (List.mem_filter.mpr ⟨List.mem_of_getElem? (i := 211) (by decide +kernel), by decide +kernel⟩)
theorem fRX5_19 : FLk RX5 19 5 2 := Or.inl (List.mem_filter.mpr ⟨List.mem_of_getElem? (i := 212) (by decide +kernel), by decide +kernel⟩)
theorem fRX5_25 : FLk RX5 25 5 3 := Or.inl (List.mem_filter.mpr ⟨List.mem_of_getElem? (i := 213) (by decide +kernel), by decide +kernel⟩)
theorem fRX5_34 : FLk RX5 34 5 4 := Or.inl (List.mem_filter.mpr ⟨List.mem_of_getElem? (i := 214) (by decide +kernel), by decide +kernel⟩)
theorem fRX5_40 : FLk RX5 40 5 5 := Or.inl (List.mem_filter.mpr ⟨List.mem_of_getElem? (i := 215) (by decide +kernel), by decide +kernel⟩)
theorem fRX5_45 : FLk RX5 45 5 6 := Or.inl (List.mem_filter.mpr ⟨List.mem_of_getElem? (i := 216) (by decide +kernel), by decide +kernel⟩)
theorem fRX5_49 : FLk RX5 49 5 7 := Or.inl (List.mem_filter.mpr ⟨List.mem_of_getElem? (i := 217) (by decide +kernel), by decide +kernel⟩)
theorem fRX5_163 : SLk RX5 163 1 := Or.inl (List.mem_filter.mpr ⟨List.mem_of_getElem? (i := 480) (by decide +kernel), by decide +kernel⟩)
theorem fRX5_166 : SLk RX5 166 0 := Or.inl (List.mem_filter.mpr ⟨List.mem_of_getElem? (i := 481) (by decide +kernel), by decide +kernel⟩)
theorem fRX0_9 : FLk RX0 9 0 0 := Or.inl (List.mem_filter.mpr ⟨List.mem_of_getElem? (i := 92) (by decide +kernel), by decide +kernel⟩)
theorem fRX0_15 : FLk RX0 15 0 2 := Or.inl (List.mem_filter.mpr ⟨List.mem_of_getElem? (i := 95) (by decide +kernel), by decide +kernel⟩)
theorem fRX0_18 : FLk RX0 18 0 5 := Or.inl (List.mem_filter.mpr ⟨List.mem_of_getElem? (i := 102) (by decide +kernel), by decide +kernel⟩)
theorem fRX0_32 : FLk RX0 32 0 1 := Or.inl (List.mem_filter.mpr ⟨List.mem_of_getElem? (i := 93) (by decide +kernel), by decide +kernel⟩)
theorem fRX0_35 : FLk RX0 35 0 3 := Or.inl (List.mem_filter.mpr ⟨List.mem_of_getElem? (i := 97) (by decide +kernel), by decide +kernel⟩)
theorem fRX0_38 : FLk RX0 38 0 4 := Or.inl (List.mem_filter.mpr ⟨List.mem_of_getElem? (i := 100) (by decide +kernel), by decide +kernel⟩)
theorem fRX0_41 : FLk RX0 41 0 6 := Or.inl (List.mem_filter.mpr ⟨List.mem_of_getElem? (i := 103) (by decide +kernel), by decide +kernel⟩)
theorem fRX1_11 : FLk RX1 11 1 0 := Or.inl (List.mem_filter.mpr ⟨List.mem_of_getElem? (i := 120) (by decide +kernel), by decide +kernel⟩)
theorem fRX1_19 : FLk RX1 19 1 1 := Or.inl (List.mem_filter.mpr ⟨List.mem_of_getElem? (i := 123) (by decide +kernel), by decide +kernel⟩)
theorem fRX1_24 : FLk RX1 24 1 2 := Or.inl (List.mem_filter.mpr ⟨List.mem_of_getElem? (i := 126) (by decide +kernel), by decide +kernel⟩)
theorem fRX1_27 : FLk RX1 27 1 5 := Or.inl (List.mem_filter.mpr ⟨List.mem_of_getElem? (i := 132) (by decide +kernel), by decide +kernel⟩)
theorem fRX1_37 : FLk RX1 37 1 3 := Or.inl (List.mem_filter.mpr ⟨List.mem_of_getElem? (i := 128) (by decide +kernel), by decide +kernel⟩)
theorem fRX1_44 : FLk RX1 44 1 4 := Or.inl (List.mem_filter.mpr ⟨List.mem_of_getElem? (i := 130) (by decide +kernel), by decide +kernel⟩)
theorem fRX2_9 : FLk RX2 9 2 0 := Or.inl (List.mem_filter.mpr ⟨List.mem_of_getElem? (i := 197) (by decide +kernel), by decide +kernel⟩)
theorem fRX2_15 : FLk RX2 15 2 1 := Or.inl (List.mem_filter.mpr ⟨List.mem_of_getElem? (i := 199) (by decide +kernel), by decide +kernel⟩)
theorem fRX2_19 : FLk RX2 19 2 2 := Or.inl (List.mem_filter.mpr ⟨List.mem_of_getElem? (i := 201) (by decide +kernel), by decide +kernel⟩)
theorem fRX3_9 : FLk RX3 9 3 0 := Or.inl (List.mem_filter.mpr ⟨List.mem_of_getElem? (i := 153) (by decide +kernel), by decide +kernel⟩)
theorem fRX3_15 : FLk RX3 15 3 1 := Or.inl (List.mem_filter.mpr ⟨List.mem_of_getElem? (i := 154) (by decide +kernel), by decide +kernel⟩)
theorem fRX3_19 : FLk RX3 19 3 2 := Or.inl (List.mem_filter.mpr ⟨List.mem_of_getElem? (i := 156) (by decide +kernel), by decide +kernel⟩)
theorem fRX3_22 : FLk RX3 22 3 3 := Or.inl (List.mem_filter.mpr ⟨List.mem_of_getElem? (i := 158) (by decide +kernel), by decide +kernel⟩)
theorem fRX3_25 : FLk RX3 25 3 4 := Or.inl (List.mem_filter.mpr ⟨List.mem_of_getElem? (i := 159) (by decide +kernel), by decide +kernel⟩)
theorem fRX3_28 : FLk RX3 28 3 5 := Or.inl (List.mem_filter.mpr ⟨List.mem_of_getElem? (i := 161) (by decide +kernel), by decide +kernel⟩)
theorem fRX4_9 : FLk RX4 9 4 0 := Or.inl (List.mem_filter.mpr ⟨List.mem_of_getElem? (i := 183) (by decide +kernel), by decide +kernel⟩)
theorem fRX4_15 : FLk RX4 15 4 1 := Or.inl (List.mem_filter.mpr ⟨List.mem_of_getElem? (i := 184) (by decide +kernel), by decide +kernel⟩)
theorem fRX6_7 : FLk RX6 7 6 0 := Or.inl (List.mem_filter.mpr ⟨List.mem_of_getElem? (i := 799) (by decide +kernel), by decide +kernel⟩)
theorem fRX6_13 : FLk RX6 13 6 1 := Or.inl (List.mem_filter.mpr ⟨List.mem_of_getElem? (i := 800) (by decide +kernel), by decide +kernel⟩)
theorem fRX6_16 : FLk RX6 16 6 2 := Or.inl (List.mem_filter.mpr ⟨List.mem_of_getElem? (i := 801) (by decide +kernel), by decide +kernel⟩)
theorem fRX6_19 : FLk RX6 19 6 3 := Or.inl (List.mem_filter.mpr ⟨List.mem_of_getElem? (i := 802) (by decide +kernel), by decide +kernel⟩)
theorem fRX6_22 : FLk RX6 22 6 5 := Or.inl (List.mem_filter.mpr ⟨List.mem_of_getElem? (i := 804) (by decide +kernel), by decide +kernel⟩)
theorem fRX6_25 : FLk RX6 25 6 6 := Or.inl (List.mem_filter.mpr ⟨List.mem_of_getElem? (i := 805) (by decide +kernel), by decide +kernel⟩)
theorem fRX6_28 : FLk RX6 28 6 8 := Or.inl (List.mem_filter.mpr ⟨List.mem_of_getElem? (i := 807) (by decide +kernel), by decide +kernel⟩)
theorem fRX6_31 : FLk RX6 31 6 9 := Or.inl (List.mem_filter.mpr ⟨List.mem_of_getElem? (i := 808) (by decide +kernel), by decide +kernel⟩)
theorem fRX6_34 : FLk RX6 34 6 10 := Or.inl (List.mem_filter.mpr ⟨List.mem_of_getElem? (i := 809) (by decide +kernel), by decide +kernel⟩)
theorem fRX6_37 : FLk RX6 37 6 11 := Or.inl (List.mem_filter.mpr ⟨List.mem_of_getElem? (i := 810) (by decide +kernel), by decide +kernel⟩)
theorem fRX6_40 : FLk RX6 40 6 12 := Or.inl (List.mem_filter.mpr ⟨List.mem_of_getElem? (i := 811) (by decide +kernel), by decide +kernel⟩)
theorem fRX6_185 : FLk RX6 185 6 13 := Or.inl (List.mem_filter.mpr ⟨List.mem_of_getElem? (i := 812) (by decide +kernel), by decide +kernel⟩)
theorem fRX6_192 : FLk RX6 192 6 14 := Or.inl (List.mem_filter.mpr ⟨List.mem_of_getElem? (i := 813) (by decide +kernel), by decide +kernel⟩)
theorem fRX6_214 : FLk RX6 214 6 7 := Or.inl (List.mem_filter.mpr ⟨List.mem_of_getElem? (i := 806) (by decide +kernel), by decide +kernel⟩)
theorem fRX6_217 : FLk RX6 217 6 17 := Or.inl (List.mem_filter.mpr ⟨List.mem_of_getElem? (i := 816) (by decide +kernel), by decide +kernel⟩)
theorem fRX6_220 : FLk RX6 220 6 16 := Or.inl (List.mem_filter.mpr ⟨List.mem_of_getElem? (i := 815) (by decide +kernel), by decide +kernel⟩)
theorem fRX6_232 : FLk RX6 232 6 15 := Or.inl (List.mem_filter.mpr ⟨List.mem_of_getElem? (i := 814) (by decide +kernel), by decide +kernel⟩)
theorem fRX6_235 : FLk RX6 235 6 18 := Or.inl (List.mem_filter.mpr ⟨List.mem_of_getElem? (i := 817) (by decide +kernel), by decide +kernel⟩)
theorem fRX6_238 : FLk RX6 238 6 19 := Or.inl (List.mem_filter.mpr ⟨List.mem_of_getElem? (i := 818) (by decide +kernel), by decide +kernel⟩)
theorem fRX6_296 : FLk RX6 296 6 4 := Or.inl (List.mem_filter.mpr ⟨List.mem_of_getElem? (i := 803) (by decide +kernel), by decide +kernel⟩)
theorem fRJ0_9 : Cond.fieldLink RJ0 9 "java/lang/String" "value" "[B" ∈ tb := List.mem_filter.mpr ⟨List.mem_of_getElem? (i := 1296) (by decide +kernel), by decide +kernel⟩
theorem fRJ0_15 : Cond.fieldLink RJ0 15 "java/lang/String" "coder" "B" ∈ tb := List.mem_filter.mpr ⟨List.mem_of_getElem? (i := 1297) (by decide +kernel), by decide +kernel⟩
theorem fRJ0_38 : Cond.fieldLink RJ0 38 "java/lang/String" "COMPACT_STRINGS" "Z" ∈ tb := List.mem_filter.mpr ⟨List.mem_of_getElem? (i := 643) (by decide +kernel), by decide +kernel⟩
theorem fRJ0_1053 : Cond.fieldLink RJ0 1053 "jdk/internal/util/Preconditions" "SIOOBE_FORMATTER" "Ljava/util/function/BiFunction;" ∈ tb := List.mem_filter.mpr ⟨List.mem_of_getElem? (i := 659) (by decide +kernel), by decide +kernel⟩
theorem fRJ2_44 : Cond.fieldLink RJ2 44 "java/lang/StringUTF16" "$assertionsDisabled" "Z" ∈ tb := List.mem_filter.mpr ⟨List.mem_of_getElem? (i := 677) (by decide +kernel), by decide +kernel⟩
theorem fRJ2_59 : Cond.fieldLink RJ2 59 "java/lang/StringUTF16" "HI_BYTE_SHIFT" "I" ∈ tb := List.mem_filter.mpr ⟨List.mem_of_getElem? (i := 679) (by decide +kernel), by decide +kernel⟩
theorem fRJ2_63 : Cond.fieldLink RJ2 63 "java/lang/StringUTF16" "LO_BYTE_SHIFT" "I" ∈ tb := List.mem_filter.mpr ⟨List.mem_of_getElem? (i := 681) (by decide +kernel), by decide +kernel⟩
theorem fRX5_61 : FLk RX5 61 1 0 := Or.inr (List.mem_filter.mpr ⟨List.mem_of_getElem? (i := 121) (by decide +kernel), by decide +kernel⟩)
theorem fRX5_82 : FLk RX5 82 1 1 := Or.inr (List.mem_filter.mpr ⟨List.mem_of_getElem? (i := 124) (by decide +kernel), by decide +kernel⟩)
theorem fRX5_86 : FLk RX5 86 0 1 := Or.inr (List.mem_filter.mpr ⟨List.mem_of_getElem? (i := 94) (by decide +kernel), by decide +kernel⟩)
theorem fRX5_131 : FLk RX5 131 1 4 := Or.inr (List.mem_filter.mpr ⟨List.mem_of_getElem? (i := 131) (by decide +kernel), by decide +kernel⟩)
theorem fRX5_172 : FLk RX5 172 1 3 := Or.inr (List.mem_filter.mpr ⟨List.mem_of_getElem? (i := 129) (by decide +kernel), by decide +kernel⟩)
theorem fRX5_178 : FLk RX5 178 0 2 := Or.inr (List.mem_filter.mpr ⟨List.mem_of_getElem? (i := 96) (by decide +kernel), by decide +kernel⟩)
theorem fRX5_187 : FLk RX5 187 0 3 := Or.inr (List.mem_filter.mpr ⟨List.mem_of_getElem? (i := 99) (by decide +kernel), by decide +kernel⟩)
theorem fRX5_214 : FLk RX5 214 2 2 := Or.inr (List.mem_filter.mpr ⟨List.mem_of_getElem? (i := 202) (by decide +kernel), by decide +kernel⟩)
theorem fRX5_217 : FLk RX5 217 2 0 := Or.inr (List.mem_filter.mpr ⟨List.mem_of_getElem? (i := 198) (by decide +kernel), by decide +kernel⟩)
theorem fRX5_227 : FLk RX5 227 1 5 := Or.inr (List.mem_filter.mpr ⟨List.mem_of_getElem? (i := 133) (by decide +kernel), by decide +kernel⟩)
theorem fRX5_230 : FLk RX5 230 3 1 := Or.inr (List.mem_filter.mpr ⟨List.mem_of_getElem? (i := 155) (by decide +kernel), by decide +kernel⟩)
theorem fRX5_240 : FLk RX5 240 1 2 := Or.inr (List.mem_filter.mpr ⟨List.mem_of_getElem? (i := 127) (by decide +kernel), by decide +kernel⟩)
theorem fRX5_258 : FLk RX5 258 2 1 := Or.inr (List.mem_filter.mpr ⟨List.mem_of_getElem? (i := 200) (by decide +kernel), by decide +kernel⟩)
theorem fRX0_25 : SLk RX0 25 0 := Or.inr (List.mem_filter.mpr ⟨List.mem_of_getElem? (i := 255) (by decide +kernel), by decide +kernel⟩)
theorem fRX0_29 : SLk RX0 29 1 := Or.inr (List.mem_filter.mpr ⟨List.mem_of_getElem? (i := 257) (by decide +kernel), by decide +kernel⟩)
theorem fRX0_44 : SLk RX0 44 2 := Or.inr (List.mem_filter.mpr ⟨List.mem_of_getElem? (i := 730) (by decide +kernel), by decide +kernel⟩)
theorem fRX0_53 : SLk RX0 53 3 := Or.inr (List.mem_filter.mpr ⟨List.mem_of_getElem? (i := 291) (by decide +kernel), by decide +kernel⟩)
theorem fRX1_76 : FLk RX1 76 0 3 := Or.inr (List.mem_filter.mpr ⟨List.mem_of_getElem? (i := 98) (by decide +kernel), by decide +kernel⟩)
theorem fRX1_106 : FLk RX1 106 0 4 := Or.inr (List.mem_filter.mpr ⟨List.mem_of_getElem? (i := 101) (by decide +kernel), by decide +kernel⟩)
theorem fRX4_28 : FLk RX4 28 3 4 := Or.inr (List.mem_filter.mpr ⟨List.mem_of_getElem? (i := 160) (by decide +kernel), by decide +kernel⟩)
theorem fRX4_35 : FLk RX4 35 3 2 := Or.inr (List.mem_filter.mpr ⟨List.mem_of_getElem? (i := 157) (by decide +kernel), by decide +kernel⟩)
theorem fRX4_65 : FLk RX4 65 1 0 := Or.inr (List.mem_filter.mpr ⟨List.mem_of_getElem? (i := 122) (by decide +kernel), by decide +kernel⟩)
theorem fRX4_69 : FLk RX4 69 3 5 := Or.inr (List.mem_filter.mpr ⟨List.mem_of_getElem? (i := 162) (by decide +kernel), by decide +kernel⟩)
theorem fRX4_72 : SLk RX4 72 0 := Or.inr (List.mem_filter.mpr ⟨List.mem_of_getElem? (i := 689) (by decide +kernel), by decide +kernel⟩)
theorem fRX4_75 : SLk RX4 75 1 := Or.inr (List.mem_filter.mpr ⟨List.mem_of_getElem? (i := 690) (by decide +kernel), by decide +kernel⟩)
theorem fRX4_78 : FLk RX4 78 1 1 := Or.inr (List.mem_filter.mpr ⟨List.mem_of_getElem? (i := 125) (by decide +kernel), by decide +kernel⟩)
theorem kRX5_134 : Cond.constant RX5 134 (99999) ∈ tb := List.mem_filter.mpr ⟨List.mem_of_getElem? (i := 390) (by decide +kernel), by decide +kernel⟩
theorem kRX5_276 : Cond.constant RX5 276 (-1000001) ∈ tb := List.mem_filter.mpr ⟨List.mem_of_getElem? (i := 246) (by decide +kernel), by decide +kernel⟩
theorem kRX1_65 : Cond.constant RX1 65 (2147483647) ∈ tb := List.mem_filter.mpr ⟨List.mem_of_getElem? (i := 332) (by decide +kernel), by decide +kernel⟩
theorem kRX1_99 : Cond.constant RX1 99 (99999) ∈ tb := List.mem_filter.mpr ⟨List.mem_of_getElem? (i := 409) (by decide +kernel), by decide +kernel⟩
theorem kRX1_109 : Cond.constant RX1 109 (1103515245) ∈ tb := List.mem_filter.mpr ⟨List.mem_of_getElem? (i := 568) (by decide +kernel), by decide +kernel⟩
theorem kRX6_43 : Cond.constant RX6 43 (-1000001) ∈ tb := List.mem_filter.mpr ⟨List.mem_of_getElem? (i := 873) (by decide +kernel), by decide +kernel⟩
theorem kRX6_44 : Cond.constant RX6 44 (-1000004) ∈ tb := List.mem_filter.mpr ⟨List.mem_of_getElem? (i := 1048) (by decide +kernel), by decide +kernel⟩
theorem kRX6_65 : Cond.constant RX6 65 (-1000002) ∈ tb := List.mem_filter.mpr ⟨List.mem_of_getElem? (i := 884) (by decide +kernel), by decide +kernel⟩
theorem kRX6_147 : Cond.constant RX6 147 (99999) ∈ tb := List.mem_filter.mpr ⟨List.mem_of_getElem? (i := 1003) (by decide +kernel), by decide +kernel⟩
theorem kRX6_148 : Cond.constant RX6 148 (-1000005) ∈ tb := List.mem_filter.mpr ⟨List.mem_of_getElem? (i := 1004) (by decide +kernel), by decide +kernel⟩
theorem kRX6_204 : Cond.constant RX6 204 (1103515245) ∈ tb := List.mem_filter.mpr ⟨List.mem_of_getElem? (i := 1152) (by decide +kernel), by decide +kernel⟩
theorem kRX6_287 : Cond.constant RX6 287 (-1000006) ∈ tb := List.mem_filter.mpr ⟨List.mem_of_getElem? (i := 1131) (by decide +kernel), by decide +kernel⟩
theorem kRX6_291 : Cond.constant RX6 291 (-1000003) ∈ tb := List.mem_filter.mpr ⟨List.mem_of_getElem? (i := 1253) (by decide +kernel), by decide +kernel⟩
theorem kRX6_295 : Cond.constant RX6 295 (-1000007) ∈ tb := List.mem_filter.mpr ⟨List.mem_of_getElem? (i := 1258) (by decide +kernel), by decide +kernel⟩
theorem kRJ6_265 : Cond.constant RJ6 265 (1431655765) ∈ tb := List.mem_filter.mpr ⟨List.mem_of_getElem? (i := 469) (by decide +kernel), by decide +kernel⟩
theorem kRJ6_266 : Cond.constant RJ6 266 (858993459) ∈ tb := List.mem_filter.mpr ⟨List.mem_of_getElem? (i := 470) (by decide +kernel), by decide +kernel⟩
theorem kRJ6_267 : Cond.constant RJ6 267 (252645135) ∈ tb := List.mem_filter.mpr ⟨List.mem_of_getElem? (i := 471) (by decide +kernel), by decide +kernel⟩
theorem kRX5_223 : Cond.constantLong RX5 223 (3) ∈ tb := List.mem_filter.mpr ⟨List.mem_of_getElem? (i := 573) (by decide +kernel), by decide +kernel⟩
theorem kRX5_225 : Cond.constantLong RX5 225 (5) ∈ tb := List.mem_filter.mpr ⟨List.mem_of_getElem? (i := 574) (by decide +kernel), by decide +kernel⟩
theorem kRX6_49 : Cond.constantLong RX6 49 (2) ∈ tb := List.mem_filter.mpr ⟨List.mem_of_getElem? (i := 864) (by decide +kernel), by decide +kernel⟩
theorem kRX6_55 : Cond.constantLong RX6 55 (99) ∈ tb := List.mem_filter.mpr ⟨List.mem_of_getElem? (i := 868) (by decide +kernel), by decide +kernel⟩
theorem kRX6_61 : Cond.constantLong RX6 61 (6) ∈ tb := List.mem_filter.mpr ⟨List.mem_of_getElem? (i := 882) (by decide +kernel), by decide +kernel⟩
theorem kRX6_63 : Cond.constantLong RX6 63 (999) ∈ tb := List.mem_filter.mpr ⟨List.mem_of_getElem? (i := 883) (by decide +kernel), by decide +kernel⟩
theorem kRX6_86 : Cond.constantLong RX6 86 (7) ∈ tb := List.mem_filter.mpr ⟨List.mem_of_getElem? (i := 897) (by decide +kernel), by decide +kernel⟩
theorem kRX6_94 : Cond.constantLong RX6 94 (20) ∈ tb := List.mem_filter.mpr ⟨List.mem_of_getElem? (i := 927) (by decide +kernel), by decide +kernel⟩
theorem kRX6_96 : Cond.constantLong RX6 96 (-9) ∈ tb := List.mem_filter.mpr ⟨List.mem_of_getElem? (i := 928) (by decide +kernel), by decide +kernel⟩
theorem kRX6_98 : Cond.constantLong RX6 98 (9) ∈ tb := List.mem_filter.mpr ⟨List.mem_of_getElem? (i := 929) (by decide +kernel), by decide +kernel⟩
theorem kRX6_100 : Cond.constantLong RX6 100 (9999) ∈ tb := List.mem_filter.mpr ⟨List.mem_of_getElem? (i := 930) (by decide +kernel), by decide +kernel⟩
theorem kRX6_134 : Cond.constantLong RX6 134 (-99) ∈ tb := List.mem_filter.mpr ⟨List.mem_of_getElem? (i := 993) (by decide +kernel), by decide +kernel⟩
theorem kRX6_145 : Cond.constantLong RX6 145 (60) ∈ tb := List.mem_filter.mpr ⟨List.mem_of_getElem? (i := 1002) (by decide +kernel), by decide +kernel⟩
theorem kRX6_166 : Cond.constantLong RX6 166 (4) ∈ tb := List.mem_filter.mpr ⟨List.mem_of_getElem? (i := 1039) (by decide +kernel), by decide +kernel⟩
theorem kRX6_177 : Cond.constantLong RX6 177 (200) ∈ tb := List.mem_filter.mpr ⟨List.mem_of_getElem? (i := 1107) (by decide +kernel), by decide +kernel⟩
theorem kRX6_208 : Cond.constantLong RX6 208 (12) ∈ tb := List.mem_filter.mpr ⟨List.mem_of_getElem? (i := 1157) (by decide +kernel), by decide +kernel⟩
theorem kRX6_210 : Cond.constantLong RX6 210 (3) ∈ tb := List.mem_filter.mpr ⟨List.mem_of_getElem? (i := 1158) (by decide +kernel), by decide +kernel⟩
theorem kRX6_212 : Cond.constantLong RX6 212 (5) ∈ tb := List.mem_filter.mpr ⟨List.mem_of_getElem? (i := 1159) (by decide +kernel), by decide +kernel⟩
theorem kRX6_300 : Cond.constantLong RX6 300 (-1) ∈ tb := List.mem_filter.mpr ⟨List.mem_of_getElem? (i := 1295) (by decide +kernel), by decide +kernel⟩
theorem lRX5_53 : MLk RX5 53 mX5_within := Or.inl (List.mem_filter.mpr ⟨List.mem_of_getElem? (i := 239) (by decide +kernel), by decide +kernel⟩)
theorem lRX5_57 : Cond.methodLink RX5 57 mX5_finding.1 ∈ tb := List.mem_filter.mpr ⟨List.mem_of_getElem? (i := 242) (by decide +kernel), by decide +kernel⟩
theorem lRX5_64 : MLk RX5 64 mX0_mayBe := Or.inl (List.mem_filter.mpr ⟨List.mem_of_getElem? (i := 251) (by decide +kernel), by decide +kernel⟩)
theorem lRX5_70 : Cond.methodLink RX5 70 mX1_isFull.1 ∈ tb := List.mem_filter.mpr ⟨List.mem_of_getElem? (i := 259) (by decide +kernel), by decide +kernel⟩
theorem lRX5_74 : Cond.methodLink RX5 74 mX1_addFarm.1 ∈ tb := List.mem_filter.mpr ⟨List.mem_of_getElem? (i := 263) (by decide +kernel), by decide +kernel⟩
theorem lRX5_78 : Cond.methodLink RX5 78 mX1_hasFarm.1 ∈ tb := List.mem_filter.mpr ⟨List.mem_of_getElem? (i := 275) (by decide +kernel), by decide +kernel⟩
theorem lRX5_90 : Cond.methodLink RX5 90 mX0_reapsOf.1 ∈ tb := List.mem_filter.mpr ⟨List.mem_of_getElem? (i := 280) (by decide +kernel), by decide +kernel⟩
theorem lRX5_93 : Cond.methodLink RX5 93 mX0_daysIn.1 ∈ tb := List.mem_filter.mpr ⟨List.mem_of_getElem? (i := 287) (by decide +kernel), by decide +kernel⟩
theorem lRX5_96 : Cond.methodLink RX5 96 mX0_tells.1 ∈ tb := List.mem_filter.mpr ⟨List.mem_of_getElem? (i := 297) (by decide +kernel), by decide +kernel⟩
theorem lRX5_100 : Cond.methodLink RX5 100 mX0_told.1 ∈ tb := List.mem_filter.mpr ⟨List.mem_of_getElem? (i := 304) (by decide +kernel), by decide +kernel⟩
theorem lRX5_103 : Cond.methodLink RX5 103 mX0_alter.1 ∈ tb := List.mem_filter.mpr ⟨List.mem_of_getElem? (i := 312) (by decide +kernel), by decide +kernel⟩
theorem lRX5_107 : Cond.methodLink RX5 107 mX0_leftBehind.1 ∈ tb := List.mem_filter.mpr ⟨List.mem_of_getElem? (i := 320) (by decide +kernel), by decide +kernel⟩
theorem lRX5_110 : Cond.methodLink RX5 110 mX1_latest.1 ∈ tb := List.mem_filter.mpr ⟨List.mem_of_getElem? (i := 328) (by decide +kernel), by decide +kernel⟩
theorem lRX5_113 : Cond.methodLink RX5 113 mX1_earliest.1 ∈ tb := List.mem_filter.mpr ⟨List.mem_of_getElem? (i := 342) (by decide +kernel), by decide +kernel⟩
theorem lRX5_116 : Cond.methodLink RX5 116 mX1_mostDays.1 ∈ tb := List.mem_filter.mpr ⟨List.mem_of_getElem? (i := 350) (by decide +kernel), by decide +kernel⟩
theorem lRX5_119 : Cond.methodLink RX5 119 mX1_latestBelow.1 ∈ tb := List.mem_filter.mpr ⟨List.mem_of_getElem? (i := 355) (by decide +kernel), by decide +kernel⟩
theorem lRX5_122 : Cond.methodLink RX5 122 mX1_leanNow.1 ∈ tb := List.mem_filter.mpr ⟨List.mem_of_getElem? (i := 360) (by decide +kernel), by decide +kernel⟩
theorem lRX5_125 : MLk RX5 125 mX5_isQuestion := Or.inl (List.mem_filter.mpr ⟨List.mem_of_getElem? (i := 379) (by decide +kernel), by decide +kernel⟩)
theorem lRX5_128 : Cond.methodLink RX5 128 mX1_answerTo.1 ∈ tb := List.mem_filter.mpr ⟨List.mem_of_getElem? (i := 382) (by decide +kernel), by decide +kernel⟩
theorem lRX5_135 : Cond.methodLink RX5 135 mX1_passYear.1 ∈ tb := List.mem_filter.mpr ⟨List.mem_of_getElem? (i := 391) (by decide +kernel), by decide +kernel⟩
theorem lRX5_138 : Cond.methodLink RX5 138 mX1_together.1 ∈ tb := List.mem_filter.mpr ⟨List.mem_of_getElem? (i := 415) (by decide +kernel), by decide +kernel⟩
theorem lRX5_141 : Cond.methodLink RX5 141 mX1_whoHadIt.1 ∈ tb := List.mem_filter.mpr ⟨List.mem_of_getElem? (i := 420) (by decide +kernel), by decide +kernel⟩
theorem lRX5_144 : MLk RX5 144 mX5_isAhead := Or.inl (List.mem_filter.mpr ⟨List.mem_of_getElem? (i := 428) (by decide +kernel), by decide +kernel⟩)
theorem lRX5_147 : Cond.methodLink RX5 147 mX5_trialBehind.1 ∈ tb := List.mem_filter.mpr ⟨List.mem_of_getElem? (i := 431) (by decide +kernel), by decide +kernel⟩
theorem lRX5_151 : Cond.methodLink RX5 151 mX1_becomes.1 ∈ tb := List.mem_filter.mpr ⟨List.mem_of_getElem? (i := 435) (by decide +kernel), by decide +kernel⟩
theorem lRX5_155 : Cond.methodLink RX5 155 mX1_isLatest.1 ∈ tb := List.mem_filter.mpr ⟨List.mem_of_getElem? (i := 458) (by decide +kernel), by decide +kernel⟩
theorem lRX5_158 : MLk RX5 158 mJ6_bitCount_0f7a4 := Or.inl (List.mem_filter.mpr ⟨List.mem_of_getElem? (i := 466) (by decide +kernel), by decide +kernel⟩)
theorem lRX5_169 : MLk RX5 169 mX5_isIn := Or.inl (List.mem_filter.mpr ⟨List.mem_of_getElem? (i := 486) (by decide +kernel), by decide +kernel⟩)
theorem lRX5_175 : Cond.methodLink RX5 175 mX5_isLatestIfLent.1 ∈ tb := List.mem_filter.mpr ⟨List.mem_of_getElem? (i := 491) (by decide +kernel), by decide +kernel⟩
theorem lRX5_181 : Cond.methodLink RX5 181 mX5_tryOpinion.1 ∈ tb := List.mem_filter.mpr ⟨List.mem_of_getElem? (i := 507) (by decide +kernel), by decide +kernel⟩
theorem lRX5_184 : Cond.methodLink RX5 184 mX1_leanBy.1 ∈ tb := List.mem_filter.mpr ⟨List.mem_of_getElem? (i := 511) (by decide +kernel), by decide +kernel⟩
theorem lRX5_190 : Cond.methodLink RX5 190 Lib.Math.abs.name ∈ tb := List.mem_filter.mpr ⟨List.mem_of_getElem? (i := 516) (by decide +kernel), by decide +kernel⟩
theorem lRX5_195 : MLk RX5 195 mX5_isCutting := Or.inl (List.mem_filter.mpr ⟨List.mem_of_getElem? (i := 525) (by decide +kernel), by decide +kernel⟩)
theorem lRX5_198 : MLk RX5 198 mX5_winningCut := Or.inl (List.mem_filter.mpr ⟨List.mem_of_getElem? (i := 528) (by decide +kernel), by decide +kernel⟩)
theorem lRX5_201 : Cond.methodLink RX5 201 Lib.Math.max.name ∈ tb := List.mem_filter.mpr ⟨List.mem_of_getElem? (i := 531) (by decide +kernel), by decide +kernel⟩
theorem lRX5_204 : Cond.methodLink RX5 204 mX5_refusalOfFit.1 ∈ tb := List.mem_filter.mpr ⟨List.mem_of_getElem? (i := 540) (by decide +kernel), by decide +kernel⟩
theorem lRX5_207 : Cond.methodLink RX5 207 mX5_opinionFits.1 ∈ tb := List.mem_filter.mpr ⟨List.mem_of_getElem? (i := 552) (by decide +kernel), by decide +kernel⟩
theorem lRX5_211 : Cond.methodLink RX5 211 mX5_refusalOfSheet.1 ∈ tb := List.mem_filter.mpr ⟨List.mem_of_getElem? (i := 544) (by decide +kernel), by decide +kernel⟩
theorem lRX5_220 : Cond.methodLink RX5 220 mX1_draw.1 ∈ tb := List.mem_filter.mpr ⟨List.mem_of_getElem? (i := 564) (by decide +kernel), by decide +kernel⟩
theorem lRX5_233 : Cond.methodLink RX5 233 mX3_add.1 ∈ tb := List.mem_filter.mpr ⟨List.mem_of_getElem? (i := 583) (by decide +kernel), by decide +kernel⟩
theorem lRX5_237 : Cond.methodLink RX5 237 mX4_readItems.1 ∈ tb := List.mem_filter.mpr ⟨List.mem_of_getElem? (i := 595) (by decide +kernel), by decide +kernel⟩
theorem lRX5_243 : Cond.methodLink RX5 243 mX0_isOfKind.1 ∈ tb := List.mem_filter.mpr ⟨List.mem_of_getElem? (i := 726) (by decide +kernel), by decide +kernel⟩
theorem lRX5_246 : MLk RX5 246 mX2_mayHave := Or.inl (List.mem_filter.mpr ⟨List.mem_of_getElem? (i := 736) (by decide +kernel), by decide +kernel⟩)
theorem lRX5_249 : Cond.methodLink RX5 249 mX2_begin.1 ∈ tb := List.mem_filter.mpr ⟨List.mem_of_getElem? (i := 739) (by decide +kernel), by decide +kernel⟩
theorem lRX5_252 : Cond.methodLink RX5 252 mX2_put.1 ∈ tb := List.mem_filter.mpr ⟨List.mem_of_getElem? (i := 747) (by decide +kernel), by decide +kernel⟩
theorem lRX5_255 : Cond.methodLink RX5 255 mX2_isMissing.1 ∈ tb := List.mem_filter.mpr ⟨List.mem_of_getElem? (i := 548) (by decide +kernel), by decide +kernel⟩
theorem lRX5_261 : Cond.methodLink RX5 261 mX2_hasRow.1 ∈ tb := List.mem_filter.mpr ⟨List.mem_of_getElem? (i := 755) (by decide +kernel), by decide +kernel⟩
theorem lRX5_264 : Cond.methodLink RX5 264 arraycopyName ∈ tb := List.mem_filter.mpr ⟨List.mem_of_getElem? (i := 759) (by decide +kernel), by decide +kernel⟩
theorem lRX5_270 : Cond.methodLink RX5 270 Lib.Math.min.name ∈ tb := List.mem_filter.mpr ⟨List.mem_of_getElem? (i := 764) (by decide +kernel), by decide +kernel⟩
theorem lRX5_273 : Cond.methodLink RX5 273 mX1_spotsHeld.1 ∈ tb := List.mem_filter.mpr ⟨List.mem_of_getElem? (i := 785) (by decide +kernel), by decide +kernel⟩
theorem lRX0_47 : Cond.methodLink RX0 47 Lib.Math.max.name ∈ tb := List.mem_filter.mpr ⟨List.mem_of_getElem? (i := 284) (by decide +kernel), by decide +kernel⟩
theorem lRX0_56 : Cond.methodLink RX0 56 mX0_reapsOf.1 ∈ tb := List.mem_filter.mpr ⟨List.mem_of_getElem? (i := 293) (by decide +kernel), by decide +kernel⟩
theorem lRX0_59 : MLk RX0 59 mX0_daysDownTo := Or.inl (List.mem_filter.mpr ⟨List.mem_of_getElem? (i := 294) (by decide +kernel), by decide +kernel⟩)
theorem lRX0_63 : Cond.methodLink RX0 63 Lib.Math.min.name ∈ tb := List.mem_filter.mpr ⟨List.mem_of_getElem? (i := 301) (by decide +kernel), by decide +kernel⟩
theorem lRX0_66 : Cond.methodLink RX0 66 mX0_alter.1 ∈ tb := List.mem_filter.mpr ⟨List.mem_of_getElem? (i := 400) (by decide +kernel), by decide +kernel⟩
theorem lRX1_31 : Cond.methodLink RX1 31 arraycopyName ∈ tb := List.mem_filter.mpr ⟨List.mem_of_getElem? (i := 439) (by decide +kernel), by decide +kernel⟩
theorem lRX1_40 : Cond.methodLink RX1 40 mX0_becomes.1 ∈ tb := List.mem_filter.mpr ⟨List.mem_of_getElem? (i := 442) (by decide +kernel), by decide +kernel⟩
theorem lRX1_51 : Cond.methodLink RX1 51 mX0_begin.1 ∈ tb := List.mem_filter.mpr ⟨List.mem_of_getElem? (i := 267) (by decide +kernel), by decide +kernel⟩
theorem lRX1_55 : Cond.methodLink RX1 55 mX0_daysIn.1 ∈ tb := List.mem_filter.mpr ⟨List.mem_of_getElem? (i := 337) (by decide +kernel), by decide +kernel⟩
theorem lRX1_59 : Cond.methodLink RX1 59 Lib.Math.max.name ∈ tb := List.mem_filter.mpr ⟨List.mem_of_getElem? (i := 354) (by decide +kernel), by decide +kernel⟩
theorem lRX1_66 : Cond.methodLink RX1 66 mX1_latestBelow.1 ∈ tb := List.mem_filter.mpr ⟨List.mem_of_getElem? (i := 333) (by decide +kernel), by decide +kernel⟩
theorem lRX1_73 : Cond.methodLink RX1 73 mX1_leanBy.1 ∈ tb := List.mem_filter.mpr ⟨List.mem_of_getElem? (i := 364) (by decide +kernel), by decide +kernel⟩
theorem lRX1_79 : Cond.methodLink RX1 79 mX0_tells.1 ∈ tb := List.mem_filter.mpr ⟨List.mem_of_getElem? (i := 371) (by decide +kernel), by decide +kernel⟩
theorem lRX1_83 : Cond.methodLink RX1 83 Lib.Math.abs.name ∈ tb := List.mem_filter.mpr ⟨List.mem_of_getElem? (i := 372) (by decide +kernel), by decide +kernel⟩
theorem lRX1_86 : Cond.methodLink RX1 86 mX1_earliest.1 ∈ tb := List.mem_filter.mpr ⟨List.mem_of_getElem? (i := 395) (by decide +kernel), by decide +kernel⟩
theorem lRX1_89 : Cond.methodLink RX1 89 mX0_hasTheSheaf.1 ∈ tb := List.mem_filter.mpr ⟨List.mem_of_getElem? (i := 396) (by decide +kernel), by decide +kernel⟩
theorem lRX1_92 : Cond.methodLink RX1 92 mX0_losesHand.1 ∈ tb := List.mem_filter.mpr ⟨List.mem_of_getElem? (i := 401) (by decide +kernel), by decide +kernel⟩
theorem lRX1_95 : Cond.methodLink RX1 95 mX0_heeds.1 ∈ tb := List.mem_filter.mpr ⟨List.mem_of_getElem? (i := 405) (by decide +kernel), by decide +kernel⟩
theorem lRX1_100 : Cond.methodLink RX1 100 Lib.Math.min.name ∈ tb := List.mem_filter.mpr ⟨List.mem_of_getElem? (i := 410) (by decide +kernel), by decide +kernel⟩
theorem lRX1_103 : Cond.methodLink RX1 103 mX0_told.1 ∈ tb := List.mem_filter.mpr ⟨List.mem_of_getElem? (i := 419) (by decide +kernel), by decide +kernel⟩
theorem lRX3_31 : Cond.methodLink RX3 31 mX3_advance.1 ∈ tb := List.mem_filter.mpr ⟨List.mem_of_getElem? (i := 603) (by decide +kernel), by decide +kernel⟩
theorem lRX3_34 : MLk RX3 34 mX3_isLetter := Or.inl (List.mem_filter.mpr ⟨List.mem_of_getElem? (i := 607) (by decide +kernel), by decide +kernel⟩)
theorem lRX3_38 : MLk RX3 38 mX3_isDigit := Or.inl (List.mem_filter.mpr ⟨List.mem_of_getElem? (i := 610) (by decide +kernel), by decide +kernel⟩)
theorem lRX3_41 : Cond.methodLink RX3 41 Lib.Math.min.name ∈ tb := List.mem_filter.mpr ⟨List.mem_of_getElem? (i := 613) (by decide +kernel), by decide +kernel⟩
theorem lRX3_47 : MLk RX3 47 mX3_sortOfSign := Or.inl (List.mem_filter.mpr ⟨List.mem_of_getElem? (i := 614) (by decide +kernel), by decide +kernel⟩)
theorem lRX3_55 : Cond.methodLink RX3 55 mJ0_length_8abf5.1 ∈ tb := List.mem_filter.mpr ⟨List.mem_of_getElem? (i := 635) (by decide +kernel), by decide +kernel⟩
theorem lRX3_61 : Cond.methodLink RX3 61 mJ0_charAt_5068e.1 ∈ tb := List.mem_filter.mpr ⟨List.mem_of_getElem? (i := 645) (by decide +kernel), by decide +kernel⟩
theorem lRX4_19 : Cond.methodLink RX4 19 mX3_lookFromBegin.1 ∈ tb := List.mem_filter.mpr ⟨List.mem_of_getElem? (i := 599) (by decide +kernel), by decide +kernel⟩
theorem lRX4_24 : Cond.methodLink RX4 24 mX4_readsItem.1 ∈ tb := List.mem_filter.mpr ⟨List.mem_of_getElem? (i := 617) (by decide +kernel), by decide +kernel⟩
theorem lRX4_32 : Cond.methodLink RX4 32 mX3_advance.1 ∈ tb := List.mem_filter.mpr ⟨List.mem_of_getElem? (i := 688) (by decide +kernel), by decide +kernel⟩
theorem lRX4_38 : MLk RX4 38 mX4_wordOfKind := Or.inl (List.mem_filter.mpr ⟨List.mem_of_getElem? (i := 621) (by decide +kernel), by decide +kernel⟩)
theorem lRX4_42 : Cond.methodLink RX4 42 mX3_isWord.1 ∈ tb := List.mem_filter.mpr ⟨List.mem_of_getElem? (i := 631) (by decide +kernel), by decide +kernel⟩
theorem lRX4_46 : Cond.methodLink RX4 46 mX1_isFull.1 ∈ tb := List.mem_filter.mpr ⟨List.mem_of_getElem? (i := 683) (by decide +kernel), by decide +kernel⟩
theorem lRX4_51 : Cond.methodLink RX4 51 mX4_readsFarm.1 ∈ tb := List.mem_filter.mpr ⟨List.mem_of_getElem? (i := 684) (by decide +kernel), by decide +kernel⟩
theorem lRX4_55 : MLk RX4 55 mX4_wordOfWeather := Or.inl (List.mem_filter.mpr ⟨List.mem_of_getElem? (i := 708) (by decide +kernel), by decide +kernel⟩)
theorem lRX4_58 : Cond.methodLink RX4 58 mX4_readsWeather.1 ∈ tb := List.mem_filter.mpr ⟨List.mem_of_getElem? (i := 714) (by decide +kernel), by decide +kernel⟩
theorem lRX4_61 : Cond.methodLink RX4 61 mX3_isNumber.1 ∈ tb := List.mem_filter.mpr ⟨List.mem_of_getElem? (i := 691) (by decide +kernel), by decide +kernel⟩
theorem lRX4_82 : Cond.methodLink RX4 82 mX1_addFarm.1 ∈ tb := List.mem_filter.mpr ⟨List.mem_of_getElem? (i := 696) (by decide +kernel), by decide +kernel⟩
theorem lRX4_86 : Cond.methodLink RX4 86 mX4_readsHands.1 ∈ tb := List.mem_filter.mpr ⟨List.mem_of_getElem? (i := 697) (by decide +kernel), by decide +kernel⟩
theorem lRX4_90 : Cond.methodLink RX4 90 mX4_readsOpinion.1 ∈ tb := List.mem_filter.mpr ⟨List.mem_of_getElem? (i := 703) (by decide +kernel), by decide +kernel⟩
theorem lRX4_95 : Cond.methodLink RX4 95 mX0_alter.1 ∈ tb := List.mem_filter.mpr ⟨List.mem_of_getElem? (i := 702) (by decide +kernel), by decide +kernel⟩
theorem lRL_13 : Cond.methodLink RL 13 mX5_weather.1 ∈ tb := List.mem_filter.mpr ⟨List.mem_of_getElem? (i := 235) (by decide +kernel), by decide +kernel⟩
theorem lRL_17 : Cond.methodLink RL 17 mX6_weather.1 ∈ tb := List.mem_filter.mpr ⟨List.mem_of_getElem? (i := 860) (by decide +kernel), by decide +kernel⟩
theorem lRL_18 : Cond.methodLink RL 18 mX5_farm.1 ∈ tb := List.mem_filter.mpr ⟨List.mem_of_getElem? (i := 247) (by decide +kernel), by decide +kernel⟩
theorem lRL_21 : Cond.methodLink RL 21 mX6_farm.1 ∈ tb := List.mem_filter.mpr ⟨List.mem_of_getElem? (i := 878) (by decide +kernel), by decide +kernel⟩
theorem lRL_22 : Cond.methodLink RL 22 mX5_of.1 ∈ tb := List.mem_filter.mpr ⟨List.mem_of_getElem? (i := 271) (by decide +kernel), by decide +kernel⟩
theorem lRL_25 : Cond.methodLink RL 25 mX6_of.1 ∈ tb := List.mem_filter.mpr ⟨List.mem_of_getElem? (i := 889) (by decide +kernel), by decide +kernel⟩
theorem lRL_26 : Cond.methodLink RL 26 mX5_change.1 ∈ tb := List.mem_filter.mpr ⟨List.mem_of_getElem? (i := 308) (by decide +kernel), by decide +kernel⟩
theorem lRL_30 : Cond.methodLink RL 30 mX6_change.1 ∈ tb := List.mem_filter.mpr ⟨List.mem_of_getElem? (i := 920) (by decide +kernel), by decide +kernel⟩
theorem lRL_31 : Cond.methodLink RL 31 mX5_left.1 ∈ tb := List.mem_filter.mpr ⟨List.mem_of_getElem? (i := 316) (by decide +kernel), by decide +kernel⟩
theorem lRL_34 : Cond.methodLink RL 34 mX6_left.1 ∈ tb := List.mem_filter.mpr ⟨List.mem_of_getElem? (i := 931) (by decide +kernel), by decide +kernel⟩
theorem lRL_35 : Cond.methodLink RL 35 mX5_last.1 ∈ tb := List.mem_filter.mpr ⟨List.mem_of_getElem? (i := 324) (by decide +kernel), by decide +kernel⟩
theorem lRL_39 : Cond.methodLink RL 39 mX6_last.1 ∈ tb := List.mem_filter.mpr ⟨List.mem_of_getElem? (i := 939) (by decide +kernel), by decide +kernel⟩
theorem lRL_40 : Cond.methodLink RL 40 mX5_first.1 ∈ tb := List.mem_filter.mpr ⟨List.mem_of_getElem? (i := 338) (by decide +kernel), by decide +kernel⟩
theorem lRL_43 : Cond.methodLink RL 43 mX6_first.1 ∈ tb := List.mem_filter.mpr ⟨List.mem_of_getElem? (i := 959) (by decide +kernel), by decide +kernel⟩
theorem lRL_44 : Cond.methodLink RL 44 mX5_next.1 ∈ tb := List.mem_filter.mpr ⟨List.mem_of_getElem? (i := 346) (by decide +kernel), by decide +kernel⟩
theorem lRL_47 : Cond.methodLink RL 47 mX6_next.1 ∈ tb := List.mem_filter.mpr ⟨List.mem_of_getElem? (i := 967) (by decide +kernel), by decide +kernel⟩
theorem lRL_48 : Cond.methodLink RL 48 mX5_lean.1 ∈ tb := List.mem_filter.mpr ⟨List.mem_of_getElem? (i := 356) (by decide +kernel), by decide +kernel⟩
theorem lRL_51 : Cond.methodLink RL 51 mX6_lean.1 ∈ tb := List.mem_filter.mpr ⟨List.mem_of_getElem? (i := 971) (by decide +kernel), by decide +kernel⟩
theorem lRL_52 : Cond.methodLink RL 52 mX5_answer.1 ∈ tb := List.mem_filter.mpr ⟨List.mem_of_getElem? (i := 375) (by decide +kernel), by decide +kernel⟩
theorem lRL_56 : Cond.methodLink RL 56 mX6_answer.1 ∈ tb := List.mem_filter.mpr ⟨List.mem_of_getElem? (i := 986) (by decide +kernel), by decide +kernel⟩
theorem lRL_57 : Cond.methodLink RL 57 mX5_go.1 ∈ tb := List.mem_filter.mpr ⟨List.mem_of_getElem? (i := 386) (by decide +kernel), by decide +kernel⟩
theorem lRL_60 : Cond.methodLink RL 60 mX6_go.1 ∈ tb := List.mem_filter.mpr ⟨List.mem_of_getElem? (i := 998) (by decide +kernel), by decide +kernel⟩
theorem lRL_61 : Cond.methodLink RL 61 mX5_now.1 ∈ tb := List.mem_filter.mpr ⟨List.mem_of_getElem? (i := 411) (by decide +kernel), by decide +kernel⟩
theorem lRL_64 : Cond.methodLink RL 64 mX6_now.1 ∈ tb := List.mem_filter.mpr ⟨List.mem_of_getElem? (i := 1013) (by decide +kernel), by decide +kernel⟩
theorem lRL_65 : Cond.methodLink RL 65 mX5_holder.1 ∈ tb := List.mem_filter.mpr ⟨List.mem_of_getElem? (i := 424) (by decide +kernel), by decide +kernel⟩
theorem lRL_68 : Cond.methodLink RL 68 mX6_holder.1 ∈ tb := List.mem_filter.mpr ⟨List.mem_of_getElem? (i := 1025) (by decide +kernel), by decide +kernel⟩
theorem lRL_69 : Cond.methodLink RL 69 mX5_ahead.1 ∈ tb := List.mem_filter.mpr ⟨List.mem_of_getElem? (i := 446) (by decide +kernel), by decide +kernel⟩
theorem lRL_72 : Cond.methodLink RL 72 mX6_ahead.1 ∈ tb := List.mem_filter.mpr ⟨List.mem_of_getElem? (i := 1035) (by decide +kernel), by decide +kernel⟩
theorem lRL_73 : Cond.methodLink RL 73 mX5_leans.1 ∈ tb := List.mem_filter.mpr ⟨List.mem_of_getElem? (i := 450) (by decide +kernel), by decide +kernel⟩
theorem lRL_76 : Cond.methodLink RL 76 mX6_leans.1 ∈ tb := List.mem_filter.mpr ⟨List.mem_of_getElem? (i := 1040) (by decide +kernel), by decide +kernel⟩
theorem lRL_77 : Cond.methodLink RL 77 mX5_when.1 ∈ tb := List.mem_filter.mpr ⟨List.mem_of_getElem? (i := 454) (by decide +kernel), by decide +kernel⟩
theorem lRL_80 : Cond.methodLink RL 80 mX6_when.1 ∈ tb := List.mem_filter.mpr ⟨List.mem_of_getElem? (i := 1044) (by decide +kernel), by decide +kernel⟩
theorem lRL_81 : Cond.methodLink RL 81 mX5_tie.1 ∈ tb := List.mem_filter.mpr ⟨List.mem_of_getElem? (i := 462) (by decide +kernel), by decide +kernel⟩
theorem lRL_84 : Cond.methodLink RL 84 mX6_tie.1 ∈ tb := List.mem_filter.mpr ⟨List.mem_of_getElem? (i := 1049) (by decide +kernel), by decide +kernel⟩
theorem lRL_85 : Cond.methodLink RL 85 mX5_turns.1 ∈ tb := List.mem_filter.mpr ⟨List.mem_of_getElem? (i := 472) (by decide +kernel), by decide +kernel⟩
theorem lRL_88 : Cond.methodLink RL 88 mX6_turns.1 ∈ tb := List.mem_filter.mpr ⟨List.mem_of_getElem? (i := 1056) (by decide +kernel), by decide +kernel⟩
theorem lRL_89 : Cond.methodLink RL 89 mX5_mostHands.1 ∈ tb := List.mem_filter.mpr ⟨List.mem_of_getElem? (i := 476) (by decide +kernel), by decide +kernel⟩
theorem lRL_92 : Cond.methodLink RL 92 mX6_mostHands.1 ∈ tb := List.mem_filter.mpr ⟨List.mem_of_getElem? (i := 1060) (by decide +kernel), by decide +kernel⟩
theorem lRL_93 : Cond.methodLink RL 93 mX5_fewestHands.1 ∈ tb := List.mem_filter.mpr ⟨List.mem_of_getElem? (i := 482) (by decide +kernel), by decide +kernel⟩
theorem lRL_96 : Cond.methodLink RL 96 mX6_fewestHands.1 ∈ tb := List.mem_filter.mpr ⟨List.mem_of_getElem? (i := 1068) (by decide +kernel), by decide +kernel⟩
theorem lRL_97 : Cond.methodLink RL 97 mX5_lend.1 ∈ tb := List.mem_filter.mpr ⟨List.mem_of_getElem? (i := 487) (by decide +kernel), by decide +kernel⟩
theorem lRL_100 : Cond.methodLink RL 100 mX6_lend.1 ∈ tb := List.mem_filter.mpr ⟨List.mem_of_getElem? (i := 1076) (by decide +kernel), by decide +kernel⟩
theorem lRL_101 : Cond.methodLink RL 101 mX5_kinds.1 ∈ tb := List.mem_filter.mpr ⟨List.mem_of_getElem? (i := 495) (by decide +kernel), by decide +kernel⟩
theorem lRL_104 : Cond.methodLink RL 104 mX6_kinds.1 ∈ tb := List.mem_filter.mpr ⟨List.mem_of_getElem? (i := 1080) (by decide +kernel), by decide +kernel⟩
theorem lRL_105 : Cond.methodLink RL 105 mX5_wetFor.1 ∈ tb := List.mem_filter.mpr ⟨List.mem_of_getElem? (i := 499) (by decide +kernel), by decide +kernel⟩
theorem lRL_108 : Cond.methodLink RL 108 mX6_wetFor.1 ∈ tb := List.mem_filter.mpr ⟨List.mem_of_getElem? (i := 1084) (by decide +kernel), by decide +kernel⟩
theorem lRL_109 : Cond.methodLink RL 109 mX5_tell.1 ∈ tb := List.mem_filter.mpr ⟨List.mem_of_getElem? (i := 503) (by decide +kernel), by decide +kernel⟩
theorem lRL_112 : Cond.methodLink RL 112 mX6_tell.1 ∈ tb := List.mem_filter.mpr ⟨List.mem_of_getElem? (i := 1088) (by decide +kernel), by decide +kernel⟩
theorem lRL_113 : Cond.methodLink RL 113 mX5_voice.1 ∈ tb := List.mem_filter.mpr ⟨List.mem_of_getElem? (i := 512) (by decide +kernel), by decide +kernel⟩
theorem lRL_116 : Cond.methodLink RL 116 mX6_voice.1 ∈ tb := List.mem_filter.mpr ⟨List.mem_of_getElem? (i := 1092) (by decide +kernel), by decide +kernel⟩
theorem lRL_117 : Cond.methodLink RL 117 mX5_miceFor.1 ∈ tb := List.mem_filter.mpr ⟨List.mem_of_getElem? (i := 517) (by decide +kernel), by decide +kernel⟩
theorem lRL_120 : Cond.methodLink RL 120 mX6_miceFor.1 ∈ tb := List.mem_filter.mpr ⟨List.mem_of_getElem? (i := 1096) (by decide +kernel), by decide +kernel⟩
theorem lRL_121 : Cond.methodLink RL 121 mX5_wins.1 ∈ tb := List.mem_filter.mpr ⟨List.mem_of_getElem? (i := 521) (by decide +kernel), by decide +kernel⟩
theorem lRL_124 : Cond.methodLink RL 124 mX6_wins.1 ∈ tb := List.mem_filter.mpr ⟨List.mem_of_getElem? (i := 1100) (by decide +kernel), by decide +kernel⟩
theorem lRL_125 : Cond.methodLink RL 125 mX5_cut.1 ∈ tb := List.mem_filter.mpr ⟨List.mem_of_getElem? (i := 532) (by decide +kernel), by decide +kernel⟩
theorem lRL_128 : Cond.methodLink RL 128 mX6_cut.1 ∈ tb := List.mem_filter.mpr ⟨List.mem_of_getElem? (i := 1112) (by decide +kernel), by decide +kernel⟩
theorem lRL_129 : Cond.methodLink RL 129 mX5_fits.1 ∈ tb := List.mem_filter.mpr ⟨List.mem_of_getElem? (i := 536) (by decide +kernel), by decide +kernel⟩
theorem lRL_132 : Cond.methodLink RL 132 mX6_fits.1 ∈ tb := List.mem_filter.mpr ⟨List.mem_of_getElem? (i := 1116) (by decide +kernel), by decide +kernel⟩
theorem lRL_133 : Cond.methodLink RL 133 mX5_thinks.1 ∈ tb := List.mem_filter.mpr ⟨List.mem_of_getElem? (i := 556) (by decide +kernel), by decide +kernel⟩
theorem lRL_136 : Cond.methodLink RL 136 mX6_thinks.1 ∈ tb := List.mem_filter.mpr ⟨List.mem_of_getElem? (i := 1140) (by decide +kernel), by decide +kernel⟩
theorem lRL_137 : Cond.methodLink RL 137 mX5_weathers.1 ∈ tb := List.mem_filter.mpr ⟨List.mem_of_getElem? (i := 560) (by decide +kernel), by decide +kernel⟩
theorem lRL_140 : Cond.methodLink RL 140 mX6_weathers.1 ∈ tb := List.mem_filter.mpr ⟨List.mem_of_getElem? (i := 1144) (by decide +kernel), by decide +kernel⟩
theorem lRL_141 : Cond.methodLink RL 141 mX5_odds.1 ∈ tb := List.mem_filter.mpr ⟨List.mem_of_getElem? (i := 569) (by decide +kernel), by decide +kernel⟩
theorem lRL_145 : Cond.methodLink RL 145 mX6_odds.1 ∈ tb := List.mem_filter.mpr ⟨List.mem_of_getElem? (i := 1153) (by decide +kernel), by decide +kernel⟩
theorem lRL_146 : Cond.methodLink RL 146 mX5_seed.1 ∈ tb := List.mem_filter.mpr ⟨List.mem_of_getElem? (i := 575) (by decide +kernel), by decide +kernel⟩
theorem lRL_149 : Cond.methodLink RL 149 mX6_seed.1 ∈ tb := List.mem_filter.mpr ⟨List.mem_of_getElem? (i := 1160) (by decide +kernel), by decide +kernel⟩
theorem lRL_150 : Cond.methodLink RL 150 mX5_feed.1 ∈ tb := List.mem_filter.mpr ⟨List.mem_of_getElem? (i := 579) (by decide +kernel), by decide +kernel⟩
theorem lRL_153 : Cond.methodLink RL 153 mX6_feed.1 ∈ tb := List.mem_filter.mpr ⟨List.mem_of_getElem? (i := 1164) (by decide +kernel), by decide +kernel⟩
theorem lRL_154 : Cond.methodLink RL 154 mX5_wipe.1 ∈ tb := List.mem_filter.mpr ⟨List.mem_of_getElem? (i := 587) (by decide +kernel), by decide +kernel⟩
theorem lRL_157 : Cond.methodLink RL 157 mX6_wipe.1 ∈ tb := List.mem_filter.mpr ⟨List.mem_of_getElem? (i := 1168) (by decide +kernel), by decide +kernel⟩
theorem lRL_158 : Cond.methodLink RL 158 mX5_text.1 ∈ tb := List.mem_filter.mpr ⟨List.mem_of_getElem? (i := 591) (by decide +kernel), by decide +kernel⟩
theorem lRL_161 : Cond.methodLink RL 161 mX6_text.1 ∈ tb := List.mem_filter.mpr ⟨List.mem_of_getElem? (i := 1172) (by decide +kernel), by decide +kernel⟩
theorem lRL_162 : Cond.methodLink RL 162 mX5_hold.1 ∈ tb := List.mem_filter.mpr ⟨List.mem_of_getElem? (i := 718) (by decide +kernel), by decide +kernel⟩
theorem lRL_165 : Cond.methodLink RL 165 mX6_hold.1 ∈ tb := List.mem_filter.mpr ⟨List.mem_of_getElem? (i := 1242) (by decide +kernel), by decide +kernel⟩
theorem lRL_166 : Cond.methodLink RL 166 mX5_as.1 ∈ tb := List.mem_filter.mpr ⟨List.mem_of_getElem? (i := 722) (by decide +kernel), by decide +kernel⟩
theorem lRL_169 : Cond.methodLink RL 169 mX6_as.1 ∈ tb := List.mem_filter.mpr ⟨List.mem_of_getElem? (i := 1246) (by decide +kernel), by decide +kernel⟩
theorem lRL_170 : Cond.methodLink RL 170 mX5_sheet.1 ∈ tb := List.mem_filter.mpr ⟨List.mem_of_getElem? (i := 732) (by decide +kernel), by decide +kernel⟩
theorem lRL_173 : Cond.methodLink RL 173 mX6_sheet.1 ∈ tb := List.mem_filter.mpr ⟨List.mem_of_getElem? (i := 1254) (by decide +kernel), by decide +kernel⟩
theorem lRL_174 : Cond.methodLink RL 174 mX5_write.1 ∈ tb := List.mem_filter.mpr ⟨List.mem_of_getElem? (i := 743) (by decide +kernel), by decide +kernel⟩
theorem lRL_177 : Cond.methodLink RL 177 mX6_write.1 ∈ tb := List.mem_filter.mpr ⟨List.mem_of_getElem? (i := 1259) (by decide +kernel), by decide +kernel⟩
theorem lRL_178 : Cond.methodLink RL 178 mX5_copy.1 ∈ tb := List.mem_filter.mpr ⟨List.mem_of_getElem? (i := 751) (by decide +kernel), by decide +kernel⟩
theorem lRL_182 : Cond.methodLink RL 182 mX6_copy.1 ∈ tb := List.mem_filter.mpr ⟨List.mem_of_getElem? (i := 1263) (by decide +kernel), by decide +kernel⟩
theorem lRL_183 : Cond.methodLink RL 183 mX5_load.1 ∈ tb := List.mem_filter.mpr ⟨List.mem_of_getElem? (i := 760) (by decide +kernel), by decide +kernel⟩
theorem lRL_186 : Cond.methodLink RL 186 mX6_load.1 ∈ tb := List.mem_filter.mpr ⟨List.mem_of_getElem? (i := 1267) (by decide +kernel), by decide +kernel⟩
theorem lRL_187 : Cond.methodLink RL 187 mX5_judge.1 ∈ tb := List.mem_filter.mpr ⟨List.mem_of_getElem? (i := 765) (by decide +kernel), by decide +kernel⟩
theorem lRL_190 : Cond.methodLink RL 190 mX6_judge.1 ∈ tb := List.mem_filter.mpr ⟨List.mem_of_getElem? (i := 1271) (by decide +kernel), by decide +kernel⟩
theorem lRL_191 : Cond.methodLink RL 191 mX5_image.1 ∈ tb := List.mem_filter.mpr ⟨List.mem_of_getElem? (i := 769) (by decide +kernel), by decide +kernel⟩
theorem lRL_194 : Cond.methodLink RL 194 mX6_image.1 ∈ tb := List.mem_filter.mpr ⟨List.mem_of_getElem? (i := 1275) (by decide +kernel), by decide +kernel⟩
theorem lRL_195 : Cond.methodLink RL 195 mX5_undo.1 ∈ tb := List.mem_filter.mpr ⟨List.mem_of_getElem? (i := 773) (by decide +kernel), by decide +kernel⟩
theorem lRL_198 : Cond.methodLink RL 198 mX6_undo.1 ∈ tb := List.mem_filter.mpr ⟨List.mem_of_getElem? (i := 1279) (by decide +kernel), by decide +kernel⟩
theorem lRL_199 : Cond.methodLink RL 199 mX5_tear.1 ∈ tb := List.mem_filter.mpr ⟨List.mem_of_getElem? (i := 777) (by decide +kernel), by decide +kernel⟩
theorem lRL_202 : Cond.methodLink RL 202 mX6_tear.1 ∈ tb := List.mem_filter.mpr ⟨List.mem_of_getElem? (i := 1283) (by decide +kernel), by decide +kernel⟩
theorem lRL_203 : Cond.methodLink RL 203 mX5_count.1 ∈ tb := List.mem_filter.mpr ⟨List.mem_of_getElem? (i := 781) (by decide +kernel), by decide +kernel⟩
theorem lRL_206 : Cond.methodLink RL 206 mX6_count.1 ∈ tb := List.mem_filter.mpr ⟨List.mem_of_getElem? (i := 1287) (by decide +kernel), by decide +kernel⟩
theorem lRL_207 : Cond.methodLink RL 207 mX5_status.1 ∈ tb := List.mem_filter.mpr ⟨List.mem_of_getElem? (i := 789) (by decide +kernel), by decide +kernel⟩
theorem lRL_210 : Cond.methodLink RL 210 mX6_status.1 ∈ tb := List.mem_filter.mpr ⟨List.mem_of_getElem? (i := 1291) (by decide +kernel), by decide +kernel⟩
theorem lRX6_45 : Cond.methodLink RX6 45 mX6_finds.1 ∈ tb := List.mem_filter.mpr ⟨List.mem_of_getElem? (i := 874) (by decide +kernel), by decide +kernel⟩
theorem lRX6_51 : MLk RX6 51 mX6_isIn := Or.inl (List.mem_filter.mpr ⟨List.mem_of_getElem? (i := 865) (by decide +kernel), by decide +kernel⟩)
theorem lRX6_57 : Cond.methodLink RX6 57 mX6_becomes.1 ∈ tb := List.mem_filter.mpr ⟨List.mem_of_getElem? (i := 869) (by decide +kernel), by decide +kernel⟩
theorem lRX6_66 : Cond.methodLink RX6 66 mX6_comes.1 ∈ tb := List.mem_filter.mpr ⟨List.mem_of_getElem? (i := 885) (by decide +kernel), by decide +kernel⟩
theorem lRX6_70 : Cond.methodLink RX6 70 mX6_its.1 ∈ tb := List.mem_filter.mpr ⟨List.mem_of_getElem? (i := 898) (by decide +kernel), by decide +kernel⟩
theorem lRX6_73 : MLk RX6 73 mX6_greatest := Or.inl (List.mem_filter.mpr ⟨List.mem_of_getElem? (i := 906) (by decide +kernel), by decide +kernel⟩)
theorem lRX6_76 : Cond.methodLink RX6 76 mX6_reaps.1 ∈ tb := List.mem_filter.mpr ⟨List.mem_of_getElem? (i := 902) (by decide +kernel), by decide +kernel⟩
theorem lRX6_79 : MLk RX6 79 mX6_least := Or.inl (List.mem_filter.mpr ⟨List.mem_of_getElem? (i := 917) (by decide +kernel), by decide +kernel⟩)
theorem lRX6_82 : Cond.methodLink RX6 82 mX6_isFarm.1 ∈ tb := List.mem_filter.mpr ⟨List.mem_of_getElem? (i := 893) (by decide +kernel), by decide +kernel⟩
theorem lRX6_88 : Cond.methodLink RX6 88 mX6_days.1 ∈ tb := List.mem_filter.mpr ⟨List.mem_of_getElem? (i := 909) (by decide +kernel), by decide +kernel⟩
theorem lRX6_91 : Cond.methodLink RX6 91 mX6_tells.1 ∈ tb := List.mem_filter.mpr ⟨List.mem_of_getElem? (i := 913) (by decide +kernel), by decide +kernel⟩
theorem lRX6_102 : MLk RX6 102 mX6_isFit := Or.inl (List.mem_filter.mpr ⟨List.mem_of_getElem? (i := 924) (by decide +kernel), by decide +kernel⟩)
theorem lRX6_106 : Cond.methodLink RX6 106 mX6_leftBehind.1 ∈ tb := List.mem_filter.mpr ⟨List.mem_of_getElem? (i := 935) (by decide +kernel), by decide +kernel⟩
theorem lRX6_109 : Cond.methodLink RX6 109 mX6_countsDays.1 ∈ tb := List.mem_filter.mpr ⟨List.mem_of_getElem? (i := 947) (by decide +kernel), by decide +kernel⟩
theorem lRX6_112 : Cond.methodLink RX6 112 mX6_mostDays.1 ∈ tb := List.mem_filter.mpr ⟨List.mem_of_getElem? (i := 951) (by decide +kernel), by decide +kernel⟩
theorem lRX6_116 : Cond.methodLink RX6 116 mX6_withDays.1 ∈ tb := List.mem_filter.mpr ⟨List.mem_of_getElem? (i := 955) (by decide +kernel), by decide +kernel⟩
theorem lRX6_119 : Cond.methodLink RX6 119 mX6_lasts.1 ∈ tb := List.mem_filter.mpr ⟨List.mem_of_getElem? (i := 943) (by decide +kernel), by decide +kernel⟩
theorem lRX6_122 : Cond.methodLink RX6 122 mX6_firsts.1 ∈ tb := List.mem_filter.mpr ⟨List.mem_of_getElem? (i := 963) (by decide +kernel), by decide +kernel⟩
theorem lRX6_125 : MLk RX6 125 mX6_nearer := Or.inl (List.mem_filter.mpr ⟨List.mem_of_getElem? (i := 983) (by decide +kernel), by decide +kernel⟩)
theorem lRX6_128 : Cond.methodLink RX6 128 mX6_leanBy.1 ∈ tb := List.mem_filter.mpr ⟨List.mem_of_getElem? (i := 979) (by decide +kernel), by decide +kernel⟩
theorem lRX6_131 : Cond.methodLink RX6 131 mX6_leanNow.1 ∈ tb := List.mem_filter.mpr ⟨List.mem_of_getElem? (i := 975) (by decide +kernel), by decide +kernel⟩
theorem lRX6_136 : MLk RX6 136 mX6_isAsked := Or.inl (List.mem_filter.mpr ⟨List.mem_of_getElem? (i := 990) (by decide +kernel), by decide +kernel⟩)
theorem lRX6_139 : Cond.methodLink RX6 139 mX6_answerTo.1 ∈ tb := List.mem_filter.mpr ⟨List.mem_of_getElem? (i := 994) (by decide +kernel), by decide +kernel⟩
theorem lRX6_142 : Cond.methodLink RX6 142 mX6_year.1 ∈ tb := List.mem_filter.mpr ⟨List.mem_of_getElem? (i := 1009) (by decide +kernel), by decide +kernel⟩
theorem lRX6_149 : Cond.methodLink RX6 149 mX6_years.1 ∈ tb := List.mem_filter.mpr ⟨List.mem_of_getElem? (i := 1005) (by decide +kernel), by decide +kernel⟩
theorem lRX6_153 : Cond.methodLink RX6 153 mX6_sumOf.1 ∈ tb := List.mem_filter.mpr ⟨List.mem_of_getElem? (i := 1017) (by decide +kernel), by decide +kernel⟩
theorem lRX6_156 : Cond.methodLink RX6 156 mX6_hadEver.1 ∈ tb := List.mem_filter.mpr ⟨List.mem_of_getElem? (i := 1021) (by decide +kernel), by decide +kernel⟩
theorem lRX6_159 : MLk RX6 159 mX6_isLong := Or.inl (List.mem_filter.mpr ⟨List.mem_of_getElem? (i := 1029) (by decide +kernel), by decide +kernel⟩)
theorem lRX6_162 : MLk RX6 162 mX6_copyRow := Or.inl (List.mem_filter.mpr ⟨List.mem_of_getElem? (i := 1032) (by decide +kernel), by decide +kernel⟩)
theorem lRX6_168 : MLk RX6 168 mX6_many := Or.inl (List.mem_filter.mpr ⟨List.mem_of_getElem? (i := 1053) (by decide +kernel), by decide +kernel⟩)
theorem lRX6_171 : Cond.methodLink RX6 171 mX6_isLast.1 ∈ tb := List.mem_filter.mpr ⟨List.mem_of_getElem? (i := 1064) (by decide +kernel), by decide +kernel⟩
theorem lRX6_174 : Cond.methodLink RX6 174 mX6_orNone.1 ∈ tb := List.mem_filter.mpr ⟨List.mem_of_getElem? (i := 1072) (by decide +kernel), by decide +kernel⟩
theorem lRX6_179 : MLk RX6 179 mX6_isCut := Or.inl (List.mem_filter.mpr ⟨List.mem_of_getElem? (i := 1104) (by decide +kernel), by decide +kernel⟩)
theorem lRX6_182 : Cond.methodLink RX6 182 mX6_findsCuts.1 ∈ tb := List.mem_filter.mpr ⟨List.mem_of_getElem? (i := 1108) (by decide +kernel), by decide +kernel⟩
theorem lRX6_189 : Cond.methodLink RX6 189 mX6_isTold.1 ∈ tb := List.mem_filter.mpr ⟨List.mem_of_getElem? (i := 1136) (by decide +kernel), by decide +kernel⟩
theorem lRX6_195 : Cond.methodLink RX6 195 mX6_wants.1 ∈ tb := List.mem_filter.mpr ⟨List.mem_of_getElem? (i := 1124) (by decide +kernel), by decide +kernel⟩
theorem lRX6_198 : Cond.methodLink RX6 198 mX6_wantsFor.1 ∈ tb := List.mem_filter.mpr ⟨List.mem_of_getElem? (i := 1120) (by decide +kernel), by decide +kernel⟩
theorem lRX6_201 : Cond.methodLink RX6 201 mX6_findsFits.1 ∈ tb := List.mem_filter.mpr ⟨List.mem_of_getElem? (i := 1132) (by decide +kernel), by decide +kernel⟩
theorem lRX6_205 : Cond.methodLink RX6 205 mX6_draw.1 ∈ tb := List.mem_filter.mpr ⟨List.mem_of_getElem? (i := 1148) (by decide +kernel), by decide +kernel⟩
theorem lRX6_223 : Cond.methodLink RX6 223 mX6_byteAt.1 ∈ tb := List.mem_filter.mpr ⟨List.mem_of_getElem? (i := 1180) (by decide +kernel), by decide +kernel⟩
theorem lRX6_226 : MLk RX6 226 mX6_isLetter := Or.inl (List.mem_filter.mpr ⟨List.mem_of_getElem? (i := 1184) (by decide +kernel), by decide +kernel⟩)
theorem lRX6_229 : MLk RX6 229 mX6_isDigit := Or.inl (List.mem_filter.mpr ⟨List.mem_of_getElem? (i := 1187) (by decide +kernel), by decide +kernel⟩)
theorem lRX6_241 : Cond.methodLink RX6 241 mX6_isWord.1 ∈ tb := List.mem_filter.mpr ⟨List.mem_of_getElem? (i := 1202) (by decide +kernel), by decide +kernel⟩
theorem lRX6_244 : Cond.methodLink RX6 244 mX6_has3.1 ∈ tb := List.mem_filter.mpr ⟨List.mem_of_getElem? (i := 1206) (by decide +kernel), by decide +kernel⟩
theorem lRX6_248 : Cond.methodLink RX6 248 mX6_fails.1 ∈ tb := List.mem_filter.mpr ⟨List.mem_of_getElem? (i := 1218) (by decide +kernel), by decide +kernel⟩
theorem lRX6_252 : Cond.methodLink RX6 252 mX6_isFour.1 ∈ tb := List.mem_filter.mpr ⟨List.mem_of_getElem? (i := 1198) (by decide +kernel), by decide +kernel⟩
theorem lRX6_255 : Cond.methodLink RX6 255 mX6_isFive.1 ∈ tb := List.mem_filter.mpr ⟨List.mem_of_getElem? (i := 1210) (by decide +kernel), by decide +kernel⟩
theorem lRX6_259 : Cond.methodLink RX6 259 mX6_nextToken.1 ∈ tb := List.mem_filter.mpr ⟨List.mem_of_getElem? (i := 1176) (by decide +kernel), by decide +kernel⟩
theorem lRX6_262 : Cond.methodLink RX6 262 mX6_isNumber.1 ∈ tb := List.mem_filter.mpr ⟨List.mem_of_getElem? (i := 1222) (by decide +kernel), by decide +kernel⟩
theorem lRX6_265 : Cond.methodLink RX6 265 mX6_isSix.1 ∈ tb := List.mem_filter.mpr ⟨List.mem_of_getElem? (i := 1234) (by decide +kernel), by decide +kernel⟩
theorem lRX6_269 : Cond.methodLink RX6 269 mX6_handsHere.1 ∈ tb := List.mem_filter.mpr ⟨List.mem_of_getElem? (i := 1226) (by decide +kernel), by decide +kernel⟩
theorem lRX6_272 : Cond.methodLink RX6 272 mX6_thinksHere.1 ∈ tb := List.mem_filter.mpr ⟨List.mem_of_getElem? (i := 1230) (by decide +kernel), by decide +kernel⟩
theorem lRX6_275 : Cond.methodLink RX6 275 mX6_kindHere.1 ∈ tb := List.mem_filter.mpr ⟨List.mem_of_getElem? (i := 1194) (by decide +kernel), by decide +kernel⟩
theorem lRX6_278 : Cond.methodLink RX6 278 mX6_farmHere.1 ∈ tb := List.mem_filter.mpr ⟨List.mem_of_getElem? (i := 1214) (by decide +kernel), by decide +kernel⟩
theorem lRX6_281 : Cond.methodLink RX6 281 mX6_weatherHere.1 ∈ tb := List.mem_filter.mpr ⟨List.mem_of_getElem? (i := 1238) (by decide +kernel), by decide +kernel⟩
theorem lRX6_284 : Cond.methodLink RX6 284 mX6_itemHere.1 ∈ tb := List.mem_filter.mpr ⟨List.mem_of_getElem? (i := 1190) (by decide +kernel), by decide +kernel⟩
theorem lRX6_288 : MLk RX6 288 mX6_isUnder := Or.inl (List.mem_filter.mpr ⟨List.mem_of_getElem? (i := 1250) (by decide +kernel), by decide +kernel⟩)
theorem lRX6_292 : MLk RX6 292 mX6_isSheet := Or.inl (List.mem_filter.mpr ⟨List.mem_of_getElem? (i := 1128) (by decide +kernel), by decide +kernel⟩)
theorem lRJ0_335 : Cond.methodLink RJ0 335 mJ0_coder_7d493.1 ∈ tb := List.mem_filter.mpr ⟨List.mem_of_getElem? (i := 639) (by decide +kernel), by decide +kernel⟩
theorem lRJ0_492 : Cond.methodLink RJ0 492 mJ0_isLatin1_aae02.1 ∈ tb := List.mem_filter.mpr ⟨List.mem_of_getElem? (i := 649) (by decide +kernel), by decide +kernel⟩
theorem lRJ0_495 : MLk RJ0 495 mJ1_charAt_3b067 := Or.inl (List.mem_filter.mpr ⟨List.mem_of_getElem? (i := 653) (by decide +kernel), by decide +kernel⟩)
theorem lRJ0_498 : MLk RJ0 498 mJ2_charAt_3b067 := Or.inl (List.mem_filter.mpr ⟨List.mem_of_getElem? (i := 664) (by decide +kernel), by decide +kernel⟩)
theorem lRJ0_1059 : MLk RJ0 1059 mJ3_checkIndex_8e157 := Or.inl (List.mem_filter.mpr ⟨List.mem_of_getElem? (i := 661) (by decide +kernel), by decide +kernel⟩)
theorem lRJ1_9 : MLk RJ1 9 mJ0_checkIndex_df160 := Or.inl (List.mem_filter.mpr ⟨List.mem_of_getElem? (i := 656) (by decide +kernel), by decide +kernel⟩)
theorem lRJ2_48 : MLk RJ2 48 mJ2_length_9d52b := Or.inl (List.mem_filter.mpr ⟨List.mem_of_getElem? (i := 670) (by decide +kernel), by decide +kernel⟩)
theorem lRJ2_67 : MLk RJ2 67 mJ2_checkIndex_2214a := Or.inl (List.mem_filter.mpr ⟨List.mem_of_getElem? (i := 667) (by decide +kernel), by decide +kernel⟩)
theorem lRJ2_71 : MLk RJ2 71 mJ2_getChar_3b067 := Or.inl (List.mem_filter.mpr ⟨List.mem_of_getElem? (i := 674) (by decide +kernel), by decide +kernel⟩)
theorem lRJ2_414 : MLk RJ2 414 mJ0_checkIndex_df160 := Or.inl (List.mem_filter.mpr ⟨List.mem_of_getElem? (i := 673) (by decide +kernel), by decide +kernel⟩)
theorem lRX0_21 : MLk RX0 21 mX5_within := Or.inr (List.mem_filter.mpr ⟨List.mem_of_getElem? (i := 254) (by decide +kernel), by decide +kernel⟩)
theorem lRX1_47 : MLk RX1 47 mX5_within := Or.inr (List.mem_filter.mpr ⟨List.mem_of_getElem? (i := 279) (by decide +kernel), by decide +kernel⟩)
theorem lRX1_69 : MLk RX1 69 mX5_isIn := Or.inr (List.mem_filter.mpr ⟨List.mem_of_getElem? (i := 368) (by decide +kernel), by decide +kernel⟩)
theorem lRX3_51 : MLk RX3 51 mX5_within := Or.inr (List.mem_filter.mpr ⟨List.mem_of_getElem? (i := 695) (by decide +kernel), by decide +kernel⟩)
end
section
/-! decode rows -/
theorem dX0_mayBe_0 : decode mX0_mayBe.2.1 0 = .ok (.iload_n 0, 1) := by decide +kernel
theorem dX0_mayBe_1 : decode mX0_mayBe.2.1 1 = .ok (.iconst 0, 1) := by decide +kernel
theorem dX0_mayBe_2 : decode mX0_mayBe.2.1 2 = .ok (.iconst 4, 1) := by decide +kernel
theorem dX0_mayBe_3 : decode mX0_mayBe.2.1 3 = .ok (.invokestatic 21, 3) := by decide +kernel
theorem dX0_mayBe_6 : decode mX0_mayBe.2.1 6 = .ok (.ifCond .eq 24, 3) := by decide +kernel
theorem dX0_mayBe_9 : decode mX0_mayBe.2.1 9 = .ok (.iload_n 1, 1) := by decide +kernel
theorem dX0_mayBe_10 : decode mX0_mayBe.2.1 10 = .ok (.getstatic 25, 3) := by decide +kernel
theorem dX0_mayBe_13 : decode mX0_mayBe.2.1 13 = .ok (.iload_n 0, 1) := by decide +kernel
theorem dX0_mayBe_14 : decode mX0_mayBe.2.1 14 = .ok (.iaload, 1) := by decide +kernel
theorem dX0_mayBe_15 : decode mX0_mayBe.2.1 15 = .ok (.getstatic 29, 3) := by decide +kernel
theorem dX0_mayBe_18 : decode mX0_mayBe.2.1 18 = .ok (.iload_n 0, 1) := by decide +kernel
theorem dX0_mayBe_19 : decode mX0_mayBe.2.1 19 = .ok (.iaload, 1) := by decide +kernel
theorem dX0_mayBe_20 : decode mX0_mayBe.2.1 20 = .ok (.invokestatic 21, 3) := by decide +kernel
theorem dX0_mayBe_23 : decode mX0_mayBe.2.1 23 = .ok (.ifCond .eq 7, 3) := by decide +kernel
theorem dX0_mayBe_26 : decode mX0_mayBe.2.1 26 = .ok (.iconst 1, 1) := by decide +kernel
theorem dX0_mayBe_27 : decode mX0_mayBe.2.1 27 = .ok (.goto 4, 3) := by decide +kernel
theorem dX0_mayBe_30 : decode mX0_mayBe.2.1 30 = .ok (.iconst 0, 1) := by decide +kernel
theorem dX0_mayBe_31 : decode mX0_mayBe.2.1 31 = .ok (.ireturn, 1) := by decide +kernel
theorem dX0_begin_0 : decode mX0_begin.2.1 0 = .ok (.aload_n 0, 1) := by decide +kernel
theorem dX0_begin_1 : decode mX0_begin.2.1 1 = .ok (.iload_n 1, 1) := by decide +kernel
theorem dX0_begin_2 : decode mX0_begin.2.1 2 = .ok (.putfield 9, 3) := by decide +kernel
theorem dX0_begin_5 : decode mX0_begin.2.1 5 = .ok (.aload_n 0, 1) := by decide +kernel
theorem dX0_begin_6 : decode mX0_begin.2.1 6 = .ok (.iload_n 2, 1) := by decide +kernel
theorem dX0_begin_7 : decode mX0_begin.2.1 7 = .ok (.putfield 32, 3) := by decide +kernel
theorem dX0_begin_10 : decode mX0_begin.2.1 10 = .ok (.aload_n 0, 1) := by decide +kernel
theorem dX0_begin_11 : decode mX0_begin.2.1 11 = .ok (.iconst 4, 1) := by decide +kernel
theorem dX0_begin_12 : decode mX0_begin.2.1 12 = .ok (.putfield 15, 3) := by decide +kernel
theorem dX0_begin_15 : decode mX0_begin.2.1 15 = .ok (.aload_n 0, 1) := by decide +kernel
theorem dX0_begin_16 : decode mX0_begin.2.1 16 = .ok (.iconst 0, 1) := by decide +kernel
theorem dX0_begin_17 : decode mX0_begin.2.1 17 = .ok (.putfield 35, 3) := by decide +kernel
theorem dX0_begin_20 : decode mX0_begin.2.1 20 = .ok (.aload_n 0, 1) := by decide +kernel
theorem dX0_begin_21 : decode mX0_begin.2.1 21 = .ok (.iconst 0, 1) := by decide +kernel
theorem dX0_begin_22 : decode mX0_begin.2.1 22 = .ok (.putfield 38, 3) := by decide +kernel
theorem dX0_begin_25 : decode mX0_begin.2.1 25 = .ok (.aload_n 0, 1) := by decide +kernel
theorem dX0_begin_26 : decode mX0_begin.2.1 26 = .ok (.iconst (-1), 1) := by decide +kernel
theorem dX0_begin_27 : decode mX0_begin.2.1 27 = .ok (.putfield 18, 3) := by decide +kernel
theorem dX0_begin_30 : decode mX0_begin.2.1 30 = .ok (.return_, 1) := by decide +kernel
theorem dX0_becomes_0 : decode mX0_becomes.2.1 0 = .ok (.aload_n 0, 1) := by decide +kernel
theorem dX0_becomes_1 : decode mX0_becomes.2.1 1 = .ok (.aload_n 1, 1) := by decide +kernel
theorem dX0_becomes_2 : decode mX0_becomes.2.1 2 = .ok (.getfield 9, 3) := by decide +kernel
theorem dX0_becomes_5 : decode mX0_becomes.2.1 5 = .ok (.putfield 9, 3) := by decide +kernel
theorem dX0_becomes_8 : decode mX0_becomes.2.1 8 = .ok (.aload_n 0, 1) := by decide +kernel
theorem dX0_becomes_9 : decode mX0_becomes.2.1 9 = .ok (.aload_n 1, 1) := by decide +kernel
theorem dX0_becomes_10 : decode mX0_becomes.2.1 10 = .ok (.getfield 32, 3) := by decide +kernel
theorem dX0_becomes_13 : decode mX0_becomes.2.1 13 = .ok (.putfield 32, 3) := by decide +kernel
theorem dX0_becomes_16 : decode mX0_becomes.2.1 16 = .ok (.aload_n 0, 1) := by decide +kernel
theorem dX0_becomes_17 : decode mX0_becomes.2.1 17 = .ok (.aload_n 1, 1) := by decide +kernel
theorem dX0_becomes_18 : decode mX0_becomes.2.1 18 = .ok (.getfield 15, 3) := by decide +kernel
theorem dX0_becomes_21 : decode mX0_becomes.2.1 21 = .ok (.putfield 15, 3) := by decide +kernel
theorem dX0_becomes_24 : decode mX0_becomes.2.1 24 = .ok (.aload_n 0, 1) := by decide +kernel
theorem dX0_becomes_25 : decode mX0_becomes.2.1 25 = .ok (.aload_n 1, 1) := by decide +kernel
theorem dX0_becomes_26 : decode mX0_becomes.2.1 26 = .ok (.getfield 35, 3) := by decide +kernel
theorem dX0_becomes_29 : decode mX0_becomes.2.1 29 = .ok (.putfield 35, 3) := by decide +kernel
theorem dX0_becomes_32 : decode mX0_becomes.2.1 32 = .ok (.aload_n 0, 1) := by decide +kernel
theorem dX0_becomes_33 : decode mX0_becomes.2.1 33 = .ok (.aload_n 1, 1) := by decide +kernel
theorem dX0_becomes_34 : decode mX0_becomes.2.1 34 = .ok (.getfield 38, 3) := by decide +kernel
theorem dX0_becomes_37 : decode mX0_becomes.2.1 37 = .ok (.putfield 38, 3) := by decide +kernel
theorem dX0_becomes_40 : decode mX0_becomes.2.1 40 = .ok (.aload_n 0, 1) := by decide +kernel
theorem dX0_becomes_41 : decode mX0_becomes.2.1 41 = .ok (.aload_n 1, 1) := by decide +kernel
theorem dX0_becomes_42 : decode mX0_becomes.2.1 42 = .ok (.getfield 18, 3) := by decide +kernel
theorem dX0_becomes_45 : decode mX0_becomes.2.1 45 = .ok (.putfield 18, 3) := by decide +kernel
theorem dX0_becomes_48 : decode mX0_becomes.2.1 48 = .ok (.aload_n 0, 1) := by decide +kernel
theorem dX0_becomes_49 : decode mX0_becomes.2.1 49 = .ok (.aload_n 1, 1) := by decide +kernel
theorem dX0_becomes_50 : decode mX0_becomes.2.1 50 = .ok (.getfield 41, 3) := by decide +kernel
theorem dX0_becomes_53 : decode mX0_becomes.2.1 53 = .ok (.putfield 41, 3) := by decide +kernel
theorem dX0_becomes_56 : decode mX0_becomes.2.1 56 = .ok (.return_, 1) := by decide +kernel
theorem dX0_told_0 : decode mX0_told.2.1 0 = .ok (.iload_n 1, 1) := by decide +kernel
theorem dX0_told_1 : decode mX0_told.2.1 1 = .ok (.tableswitch 51 0 3 #[31, 36, 41, 46], 31) := by decide +kernel
theorem dX0_told_32 : decode mX0_told.2.1 32 = .ok (.aload_n 0, 1) := by decide +kernel
theorem dX0_told_33 : decode mX0_told.2.1 33 = .ok (.getfield 9, 3) := by decide +kernel
theorem dX0_told_36 : decode mX0_told.2.1 36 = .ok (.ireturn, 1) := by decide +kernel
theorem dX0_told_37 : decode mX0_told.2.1 37 = .ok (.aload_n 0, 1) := by decide +kernel
theorem dX0_told_38 : decode mX0_told.2.1 38 = .ok (.getfield 32, 3) := by decide +kernel
theorem dX0_told_41 : decode mX0_told.2.1 41 = .ok (.ireturn, 1) := by decide +kernel
theorem dX0_told_42 : decode mX0_told.2.1 42 = .ok (.aload_n 0, 1) := by decide +kernel
theorem dX0_told_43 : decode mX0_told.2.1 43 = .ok (.getfield 15, 3) := by decide +kernel
theorem dX0_told_46 : decode mX0_told.2.1 46 = .ok (.ireturn, 1) := by decide +kernel
theorem dX0_told_47 : decode mX0_told.2.1 47 = .ok (.aload_n 0, 1) := by decide +kernel
theorem dX0_told_48 : decode mX0_told.2.1 48 = .ok (.getfield 35, 3) := by decide +kernel
theorem dX0_told_51 : decode mX0_told.2.1 51 = .ok (.ireturn, 1) := by decide +kernel
theorem dX0_told_52 : decode mX0_told.2.1 52 = .ok (.aload_n 0, 1) := by decide +kernel
theorem dX0_told_53 : decode mX0_told.2.1 53 = .ok (.getfield 38, 3) := by decide +kernel
theorem dX0_told_56 : decode mX0_told.2.1 56 = .ok (.ireturn, 1) := by decide +kernel
theorem dX0_alter_0 : decode mX0_alter.2.1 0 = .ok (.iload_n 1, 1) := by decide +kernel
theorem dX0_alter_1 : decode mX0_alter.2.1 1 = .ok (.tableswitch 63 0 3 #[31, 39, 47, 55], 31) := by decide +kernel
theorem dX0_alter_32 : decode mX0_alter.2.1 32 = .ok (.aload_n 0, 1) := by decide +kernel
theorem dX0_alter_33 : decode mX0_alter.2.1 33 = .ok (.iload_n 2, 1) := by decide +kernel
theorem dX0_alter_34 : decode mX0_alter.2.1 34 = .ok (.putfield 9, 3) := by decide +kernel
theorem dX0_alter_37 : decode mX0_alter.2.1 37 = .ok (.goto 32, 3) := by decide +kernel
theorem dX0_alter_40 : decode mX0_alter.2.1 40 = .ok (.aload_n 0, 1) := by decide +kernel
theorem dX0_alter_41 : decode mX0_alter.2.1 41 = .ok (.iload_n 2, 1) := by decide +kernel
theorem dX0_alter_42 : decode mX0_alter.2.1 42 = .ok (.putfield 32, 3) := by decide +kernel
theorem dX0_alter_45 : decode mX0_alter.2.1 45 = .ok (.goto 24, 3) := by decide +kernel
theorem dX0_alter_48 : decode mX0_alter.2.1 48 = .ok (.aload_n 0, 1) := by decide +kernel
theorem dX0_alter_49 : decode mX0_alter.2.1 49 = .ok (.iload_n 2, 1) := by decide +kernel
theorem dX0_alter_50 : decode mX0_alter.2.1 50 = .ok (.putfield 15, 3) := by decide +kernel
theorem dX0_alter_53 : decode mX0_alter.2.1 53 = .ok (.goto 16, 3) := by decide +kernel
theorem dX0_alter_56 : decode mX0_alter.2.1 56 = .ok (.aload_n 0, 1) := by decide +kernel
theorem dX0_alter_57 : decode mX0_alter.2.1 57 = .ok (.iload_n 2, 1) := by decide +kernel
theorem dX0_alter_58 : decode mX0_alter.2.1 58 = .ok (.putfield 35, 3) := by decide +kernel
theorem dX0_alter_61 : decode mX0_alter.2.1 61 = .ok (.goto 8, 3) := by decide +kernel
theorem dX0_alter_64 : decode mX0_alter.2.1 64 = .ok (.aload_n 0, 1) := by decide +kernel
theorem dX0_alter_65 : decode mX0_alter.2.1 65 = .ok (.iload_n 2, 1) := by decide +kernel
theorem dX0_alter_66 : decode mX0_alter.2.1 66 = .ok (.putfield 38, 3) := by decide +kernel
theorem dX0_alter_69 : decode mX0_alter.2.1 69 = .ok (.aload_n 0, 1) := by decide +kernel
theorem dX0_alter_70 : decode mX0_alter.2.1 70 = .ok (.iconst (-1), 1) := by decide +kernel
theorem dX0_alter_71 : decode mX0_alter.2.1 71 = .ok (.putfield 18, 3) := by decide +kernel
theorem dX0_alter_74 : decode mX0_alter.2.1 74 = .ok (.return_, 1) := by decide +kernel
theorem dX0_isOfKind_0 : decode mX0_isOfKind.2.1 0 = .ok (.aload_n 0, 1) := by decide +kernel
theorem dX0_isOfKind_1 : decode mX0_isOfKind.2.1 1 = .ok (.getfield 9, 3) := by decide +kernel
theorem dX0_isOfKind_4 : decode mX0_isOfKind.2.1 4 = .ok (.istore_n 2, 1) := by decide +kernel
theorem dX0_isOfKind_5 : decode mX0_isOfKind.2.1 5 = .ok (.iconst 0, 1) := by decide +kernel
theorem dX0_isOfKind_6 : decode mX0_isOfKind.2.1 6 = .ok (.istore_n 3, 1) := by decide +kernel
theorem dX0_isOfKind_7 : decode mX0_isOfKind.2.1 7 = .ok (.iload_n 3, 1) := by decide +kernel
theorem dX0_isOfKind_8 : decode mX0_isOfKind.2.1 8 = .ok (.bipush 7, 2) := by decide +kernel
theorem dX0_isOfKind_10 : decode mX0_isOfKind.2.1 10 = .ok (.if_icmp .ge 27, 3) := by decide +kernel
theorem dX0_isOfKind_13 : decode mX0_isOfKind.2.1 13 = .ok (.iload_n 2, 1) := by decide +kernel
theorem dX0_isOfKind_14 : decode mX0_isOfKind.2.1 14 = .ok (.iconst (-1), 1) := by decide +kernel
theorem dX0_isOfKind_15 : decode mX0_isOfKind.2.1 15 = .ok (.if_icmp .eq 22, 3) := by decide +kernel
theorem dX0_isOfKind_18 : decode mX0_isOfKind.2.1 18 = .ok (.iload_n 2, 1) := by decide +kernel
theorem dX0_isOfKind_19 : decode mX0_isOfKind.2.1 19 = .ok (.iload_n 1, 1) := by decide +kernel
theorem dX0_isOfKind_20 : decode mX0_isOfKind.2.1 20 = .ok (.if_icmp .ne 5, 3) := by decide +kernel
theorem dX0_isOfKind_23 : decode mX0_isOfKind.2.1 23 = .ok (.iconst 1, 1) := by decide +kernel
theorem dX0_isOfKind_24 : decode mX0_isOfKind.2.1 24 = .ok (.ireturn, 1) := by decide +kernel
theorem dX0_isOfKind_25 : decode mX0_isOfKind.2.1 25 = .ok (.getstatic 44, 3) := by decide +kernel
theorem dX0_isOfKind_28 : decode mX0_isOfKind.2.1 28 = .ok (.iload_n 2, 1) := by decide +kernel
theorem dX0_isOfKind_29 : decode mX0_isOfKind.2.1 29 = .ok (.iaload, 1) := by decide +kernel
theorem dX0_isOfKind_30 : decode mX0_isOfKind.2.1 30 = .ok (.istore_n 2, 1) := by decide +kernel
theorem dX0_isOfKind_31 : decode mX0_isOfKind.2.1 31 = .ok (.iinc 3 1, 3) := by decide +kernel
theorem dX0_isOfKind_34 : decode mX0_isOfKind.2.1 34 = .ok (.goto (-27), 3) := by decide +kernel
theorem dX0_isOfKind_37 : decode mX0_isOfKind.2.1 37 = .ok (.iconst 0, 1) := by decide +kernel
theorem dX0_isOfKind_38 : decode mX0_isOfKind.2.1 38 = .ok (.ireturn, 1) := by decide +kernel
theorem dX0_reapsOf_0 : decode mX0_reapsOf.2.1 0 = .ok (.iconst 1, 1) := by decide +kernel
theorem dX0_reapsOf_1 : decode mX0_reapsOf.2.1 1 = .ok (.iconst 2, 1) := by decide +kernel
theorem dX0_reapsOf_2 : decode mX0_reapsOf.2.1 2 = .ok (.aload_n 0, 1) := by decide +kernel
theorem dX0_reapsOf_3 : decode mX0_reapsOf.2.1 3 = .ok (.getfield 15, 3) := by decide +kernel
theorem dX0_reapsOf_6 : decode mX0_reapsOf.2.1 6 = .ok (.imul, 1) := by decide +kernel
theorem dX0_reapsOf_7 : decode mX0_reapsOf.2.1 7 = .ok (.iload_n 2, 1) := by decide +kernel
theorem dX0_reapsOf_8 : decode mX0_reapsOf.2.1 8 = .ok (.bipush 10, 2) := by decide +kernel
theorem dX0_reapsOf_10 : decode mX0_reapsOf.2.1 10 = .ok (.idiv, 1) := by decide +kernel
theorem dX0_reapsOf_11 : decode mX0_reapsOf.2.1 11 = .ok (.isub, 1) := by decide +kernel
theorem dX0_reapsOf_12 : decode mX0_reapsOf.2.1 12 = .ok (.invokestatic 47, 3) := by decide +kernel
theorem dX0_reapsOf_15 : decode mX0_reapsOf.2.1 15 = .ok (.istore_n 3, 1) := by decide +kernel
theorem dX0_reapsOf_16 : decode mX0_reapsOf.2.1 16 = .ok (.iconst 1, 1) := by decide +kernel
theorem dX0_reapsOf_17 : decode mX0_reapsOf.2.1 17 = .ok (.iload_n 3, 1) := by decide +kernel
theorem dX0_reapsOf_18 : decode mX0_reapsOf.2.1 18 = .ok (.iconst 2, 1) := by decide +kernel
theorem dX0_reapsOf_19 : decode mX0_reapsOf.2.1 19 = .ok (.idiv, 1) := by decide +kernel
theorem dX0_reapsOf_20 : decode mX0_reapsOf.2.1 20 = .ok (.invokestatic 47, 3) := by decide +kernel
theorem dX0_reapsOf_23 : decode mX0_reapsOf.2.1 23 = .ok (.istore 4, 2) := by decide +kernel
theorem dX0_reapsOf_25 : decode mX0_reapsOf.2.1 25 = .ok (.iload_n 3, 1) := by decide +kernel
theorem dX0_reapsOf_26 : decode mX0_reapsOf.2.1 26 = .ok (.iconst 3, 1) := by decide +kernel
theorem dX0_reapsOf_27 : decode mX0_reapsOf.2.1 27 = .ok (.iadd, 1) := by decide +kernel
theorem dX0_reapsOf_28 : decode mX0_reapsOf.2.1 28 = .ok (.istore 5, 2) := by decide +kernel
theorem dX0_reapsOf_30 : decode mX0_reapsOf.2.1 30 = .ok (.iload_n 1, 1) := by decide +kernel
theorem dX0_reapsOf_31 : decode mX0_reapsOf.2.1 31 = .ok (.bipush 20, 2) := by decide +kernel
theorem dX0_reapsOf_33 : decode mX0_reapsOf.2.1 33 = .ok (.if_icmp .gt 10, 3) := by decide +kernel
theorem dX0_reapsOf_36 : decode mX0_reapsOf.2.1 36 = .ok (.iload 5, 2) := by decide +kernel
theorem dX0_reapsOf_38 : decode mX0_reapsOf.2.1 38 = .ok (.iconst 2, 1) := by decide +kernel
theorem dX0_reapsOf_39 : decode mX0_reapsOf.2.1 39 = .ok (.idiv, 1) := by decide +kernel
theorem dX0_reapsOf_40 : decode mX0_reapsOf.2.1 40 = .ok (.goto 5, 3) := by decide +kernel
theorem dX0_reapsOf_43 : decode mX0_reapsOf.2.1 43 = .ok (.iload 5, 2) := by decide +kernel
theorem dX0_reapsOf_45 : decode mX0_reapsOf.2.1 45 = .ok (.istore 6, 2) := by decide +kernel
theorem dX0_reapsOf_47 : decode mX0_reapsOf.2.1 47 = .ok (.aload_n 0, 1) := by decide +kernel
theorem dX0_reapsOf_48 : decode mX0_reapsOf.2.1 48 = .ok (.getfield 9, 3) := by decide +kernel
theorem dX0_reapsOf_51 : decode mX0_reapsOf.2.1 51 = .ok (.tableswitch 80 1 6 #[37, 49, 52, 55, 67, 40], 37) := by decide +kernel
theorem dX0_reapsOf_88 : decode mX0_reapsOf.2.1 88 = .ok (.iload 4, 2) := by decide +kernel
theorem dX0_reapsOf_90 : decode mX0_reapsOf.2.1 90 = .ok (.ireturn, 1) := by decide +kernel
theorem dX0_reapsOf_91 : decode mX0_reapsOf.2.1 91 = .ok (.iconst 1, 1) := by decide +kernel
theorem dX0_reapsOf_92 : decode mX0_reapsOf.2.1 92 = .ok (.iload 4, 2) := by decide +kernel
theorem dX0_reapsOf_94 : decode mX0_reapsOf.2.1 94 = .ok (.iconst 1, 1) := by decide +kernel
theorem dX0_reapsOf_95 : decode mX0_reapsOf.2.1 95 = .ok (.isub, 1) := by decide +kernel
theorem dX0_reapsOf_96 : decode mX0_reapsOf.2.1 96 = .ok (.invokestatic 47, 3) := by decide +kernel
theorem dX0_reapsOf_99 : decode mX0_reapsOf.2.1 99 = .ok (.ireturn, 1) := by decide +kernel
theorem dX0_reapsOf_100 : decode mX0_reapsOf.2.1 100 = .ok (.iload 5, 2) := by decide +kernel
theorem dX0_reapsOf_102 : decode mX0_reapsOf.2.1 102 = .ok (.ireturn, 1) := by decide +kernel
theorem dX0_reapsOf_103 : decode mX0_reapsOf.2.1 103 = .ok (.iload 6, 2) := by decide +kernel
theorem dX0_reapsOf_105 : decode mX0_reapsOf.2.1 105 = .ok (.ireturn, 1) := by decide +kernel
theorem dX0_reapsOf_106 : decode mX0_reapsOf.2.1 106 = .ok (.iload_n 1, 1) := by decide +kernel
theorem dX0_reapsOf_107 : decode mX0_reapsOf.2.1 107 = .ok (.iconst 5, 1) := by decide +kernel
theorem dX0_reapsOf_108 : decode mX0_reapsOf.2.1 108 = .ok (.if_icmp .gt 7, 3) := by decide +kernel
theorem dX0_reapsOf_111 : decode mX0_reapsOf.2.1 111 = .ok (.iconst 1, 1) := by decide +kernel
theorem dX0_reapsOf_112 : decode mX0_reapsOf.2.1 112 = .ok (.goto 5, 3) := by decide +kernel
theorem dX0_reapsOf_115 : decode mX0_reapsOf.2.1 115 = .ok (.iload 6, 2) := by decide +kernel
theorem dX0_reapsOf_117 : decode mX0_reapsOf.2.1 117 = .ok (.ireturn, 1) := by decide +kernel
theorem dX0_reapsOf_118 : decode mX0_reapsOf.2.1 118 = .ok (.iload_n 2, 1) := by decide +kernel
theorem dX0_reapsOf_119 : decode mX0_reapsOf.2.1 119 = .ok (.bipush 50, 2) := by decide +kernel
theorem dX0_reapsOf_121 : decode mX0_reapsOf.2.1 121 = .ok (.if_icmp .ge 8, 3) := by decide +kernel
theorem dX0_reapsOf_124 : decode mX0_reapsOf.2.1 124 = .ok (.bipush 30, 2) := by decide +kernel
theorem dX0_reapsOf_126 : decode mX0_reapsOf.2.1 126 = .ok (.goto 4, 3) := by decide +kernel
theorem dX0_reapsOf_129 : decode mX0_reapsOf.2.1 129 = .ok (.iconst 2, 1) := by decide +kernel
theorem dX0_reapsOf_130 : decode mX0_reapsOf.2.1 130 = .ok (.ireturn, 1) := by decide +kernel
theorem dX0_reapsOf_131 : decode mX0_reapsOf.2.1 131 = .ok (.iload_n 3, 1) := by decide +kernel
theorem dX0_reapsOf_132 : decode mX0_reapsOf.2.1 132 = .ok (.ireturn, 1) := by decide +kernel
theorem dX0_daysIn_0 : decode mX0_daysIn.2.1 0 = .ok (.aload_n 0, 1) := by decide +kernel
theorem dX0_daysIn_1 : decode mX0_daysIn.2.1 1 = .ok (.getfield 18, 3) := by decide +kernel
theorem dX0_daysIn_4 : decode mX0_daysIn.2.1 4 = .ok (.iload_n 1, 1) := by decide +kernel
theorem dX0_daysIn_5 : decode mX0_daysIn.2.1 5 = .ok (.if_icmp .ne 8, 3) := by decide +kernel
theorem dX0_daysIn_8 : decode mX0_daysIn.2.1 8 = .ok (.aload_n 0, 1) := by decide +kernel
theorem dX0_daysIn_9 : decode mX0_daysIn.2.1 9 = .ok (.getfield 41, 3) := by decide +kernel
theorem dX0_daysIn_12 : decode mX0_daysIn.2.1 12 = .ok (.ireturn, 1) := by decide +kernel
theorem dX0_daysIn_13 : decode mX0_daysIn.2.1 13 = .ok (.aload_n 0, 1) := by decide +kernel
theorem dX0_daysIn_14 : decode mX0_daysIn.2.1 14 = .ok (.getfield 32, 3) := by decide +kernel
theorem dX0_daysIn_17 : decode mX0_daysIn.2.1 17 = .ok (.istore_n 2, 1) := by decide +kernel
theorem dX0_daysIn_18 : decode mX0_daysIn.2.1 18 = .ok (.iconst 0, 1) := by decide +kernel
theorem dX0_daysIn_19 : decode mX0_daysIn.2.1 19 = .ok (.istore_n 3, 1) := by decide +kernel
theorem dX0_daysIn_20 : decode mX0_daysIn.2.1 20 = .ok (.getstatic 53, 3) := by decide +kernel
theorem dX0_daysIn_23 : decode mX0_daysIn.2.1 23 = .ok (.astore 4, 2) := by decide +kernel
theorem dX0_daysIn_25 : decode mX0_daysIn.2.1 25 = .ok (.aload 4, 2) := by decide +kernel
theorem dX0_daysIn_27 : decode mX0_daysIn.2.1 27 = .ok (.arraylength, 1) := by decide +kernel
theorem dX0_daysIn_28 : decode mX0_daysIn.2.1 28 = .ok (.istore 5, 2) := by decide +kernel
theorem dX0_daysIn_30 : decode mX0_daysIn.2.1 30 = .ok (.iconst 0, 1) := by decide +kernel
theorem dX0_daysIn_31 : decode mX0_daysIn.2.1 31 = .ok (.istore 6, 2) := by decide +kernel
theorem dX0_daysIn_33 : decode mX0_daysIn.2.1 33 = .ok (.iload 6, 2) := by decide +kernel
theorem dX0_daysIn_35 : decode mX0_daysIn.2.1 35 = .ok (.iload 5, 2) := by decide +kernel
theorem dX0_daysIn_37 : decode mX0_daysIn.2.1 37 = .ok (.if_icmp .ge 47, 3) := by decide +kernel
theorem dX0_daysIn_40 : decode mX0_daysIn.2.1 40 = .ok (.aload 4, 2) := by decide +kernel
theorem dX0_daysIn_42 : decode mX0_daysIn.2.1 42 = .ok (.iload 6, 2) := by decide +kernel
theorem dX0_daysIn_44 : decode mX0_daysIn.2.1 44 = .ok (.iaload, 1) := by decide +kernel
theorem dX0_daysIn_45 : decode mX0_daysIn.2.1 45 = .ok (.istore 7, 2) := by decide +kernel
theorem dX0_daysIn_47 : decode mX0_daysIn.2.1 47 = .ok (.aload_n 0, 1) := by decide +kernel
theorem dX0_daysIn_48 : decode mX0_daysIn.2.1 48 = .ok (.iload_n 2, 1) := by decide +kernel
theorem dX0_daysIn_49 : decode mX0_daysIn.2.1 49 = .ok (.iload_n 1, 1) := by decide +kernel
theorem dX0_daysIn_50 : decode mX0_daysIn.2.1 50 = .ok (.invokevirtual 56, 3) := by decide +kernel
theorem dX0_daysIn_53 : decode mX0_daysIn.2.1 53 = .ok (.istore 8, 2) := by decide +kernel
theorem dX0_daysIn_55 : decode mX0_daysIn.2.1 55 = .ok (.iload 7, 2) := by decide +kernel
theorem dX0_daysIn_57 : decode mX0_daysIn.2.1 57 = .ok (.iload_n 2, 1) := by decide +kernel
theorem dX0_daysIn_58 : decode mX0_daysIn.2.1 58 = .ok (.iload 8, 2) := by decide +kernel
theorem dX0_daysIn_60 : decode mX0_daysIn.2.1 60 = .ok (.invokestatic 59, 3) := by decide +kernel
theorem dX0_daysIn_63 : decode mX0_daysIn.2.1 63 = .ok (.istore 9, 2) := by decide +kernel
theorem dX0_daysIn_65 : decode mX0_daysIn.2.1 65 = .ok (.iload_n 2, 1) := by decide +kernel
theorem dX0_daysIn_66 : decode mX0_daysIn.2.1 66 = .ok (.iload 9, 2) := by decide +kernel
theorem dX0_daysIn_68 : decode mX0_daysIn.2.1 68 = .ok (.iload 8, 2) := by decide +kernel
theorem dX0_daysIn_70 : decode mX0_daysIn.2.1 70 = .ok (.imul, 1) := by decide +kernel
theorem dX0_daysIn_71 : decode mX0_daysIn.2.1 71 = .ok (.isub, 1) := by decide +kernel
theorem dX0_daysIn_72 : decode mX0_daysIn.2.1 72 = .ok (.istore_n 2, 1) := by decide +kernel
theorem dX0_daysIn_73 : decode mX0_daysIn.2.1 73 = .ok (.iload_n 3, 1) := by decide +kernel
theorem dX0_daysIn_74 : decode mX0_daysIn.2.1 74 = .ok (.iload 9, 2) := by decide +kernel
theorem dX0_daysIn_76 : decode mX0_daysIn.2.1 76 = .ok (.iadd, 1) := by decide +kernel
theorem dX0_daysIn_77 : decode mX0_daysIn.2.1 77 = .ok (.istore_n 3, 1) := by decide +kernel
theorem dX0_daysIn_78 : decode mX0_daysIn.2.1 78 = .ok (.iinc 6 1, 3) := by decide +kernel
theorem dX0_daysIn_81 : decode mX0_daysIn.2.1 81 = .ok (.goto (-48), 3) := by decide +kernel
theorem dX0_daysIn_84 : decode mX0_daysIn.2.1 84 = .ok (.aload_n 0, 1) := by decide +kernel
theorem dX0_daysIn_85 : decode mX0_daysIn.2.1 85 = .ok (.iload_n 3, 1) := by decide +kernel
theorem dX0_daysIn_86 : decode mX0_daysIn.2.1 86 = .ok (.putfield 41, 3) := by decide +kernel
theorem dX0_daysIn_89 : decode mX0_daysIn.2.1 89 = .ok (.aload_n 0, 1) := by decide +kernel
theorem dX0_daysIn_90 : decode mX0_daysIn.2.1 90 = .ok (.iload_n 1, 1) := by decide +kernel
theorem dX0_daysIn_91 : decode mX0_daysIn.2.1 91 = .ok (.putfield 18, 3) := by decide +kernel
theorem dX0_daysIn_94 : decode mX0_daysIn.2.1 94 = .ok (.iload_n 3, 1) := by decide +kernel
theorem dX0_daysIn_95 : decode mX0_daysIn.2.1 95 = .ok (.ireturn, 1) := by decide +kernel
theorem dX0_leftBehind_0 : decode mX0_leftBehind.2.1 0 = .ok (.aload_n 0, 1) := by decide +kernel
theorem dX0_leftBehind_1 : decode mX0_leftBehind.2.1 1 = .ok (.getfield 32, 3) := by decide +kernel
theorem dX0_leftBehind_4 : decode mX0_leftBehind.2.1 4 = .ok (.istore_n 3, 1) := by decide +kernel
theorem dX0_leftBehind_5 : decode mX0_leftBehind.2.1 5 = .ok (.iload_n 1, 1) := by decide +kernel
theorem dX0_leftBehind_6 : decode mX0_leftBehind.2.1 6 = .ok (.istore 4, 2) := by decide +kernel
theorem dX0_leftBehind_8 : decode mX0_leftBehind.2.1 8 = .ok (.getstatic 53, 3) := by decide +kernel
theorem dX0_leftBehind_11 : decode mX0_leftBehind.2.1 11 = .ok (.astore 5, 2) := by decide +kernel
theorem dX0_leftBehind_13 : decode mX0_leftBehind.2.1 13 = .ok (.aload 5, 2) := by decide +kernel
theorem dX0_leftBehind_15 : decode mX0_leftBehind.2.1 15 = .ok (.arraylength, 1) := by decide +kernel
theorem dX0_leftBehind_16 : decode mX0_leftBehind.2.1 16 = .ok (.istore 6, 2) := by decide +kernel
theorem dX0_leftBehind_18 : decode mX0_leftBehind.2.1 18 = .ok (.iconst 0, 1) := by decide +kernel
theorem dX0_leftBehind_19 : decode mX0_leftBehind.2.1 19 = .ok (.istore 7, 2) := by decide +kernel
theorem dX0_leftBehind_21 : decode mX0_leftBehind.2.1 21 = .ok (.iload 7, 2) := by decide +kernel
theorem dX0_leftBehind_23 : decode mX0_leftBehind.2.1 23 = .ok (.iload 6, 2) := by decide +kernel
theorem dX0_leftBehind_25 : decode mX0_leftBehind.2.1 25 = .ok (.if_icmp .ge 54, 3) := by decide +kernel
theorem dX0_leftBehind_28 : decode mX0_leftBehind.2.1 28 = .ok (.aload 5, 2) := by decide +kernel
theorem dX0_leftBehind_30 : decode mX0_leftBehind.2.1 30 = .ok (.iload 7, 2) := by decide +kernel
theorem dX0_leftBehind_32 : decode mX0_leftBehind.2.1 32 = .ok (.iaload, 1) := by decide +kernel
theorem dX0_leftBehind_33 : decode mX0_leftBehind.2.1 33 = .ok (.istore 8, 2) := by decide +kernel
theorem dX0_leftBehind_35 : decode mX0_leftBehind.2.1 35 = .ok (.aload_n 0, 1) := by decide +kernel
theorem dX0_leftBehind_36 : decode mX0_leftBehind.2.1 36 = .ok (.iload_n 3, 1) := by decide +kernel
theorem dX0_leftBehind_37 : decode mX0_leftBehind.2.1 37 = .ok (.iload_n 2, 1) := by decide +kernel
theorem dX0_leftBehind_38 : decode mX0_leftBehind.2.1 38 = .ok (.invokevirtual 56, 3) := by decide +kernel
theorem dX0_leftBehind_41 : decode mX0_leftBehind.2.1 41 = .ok (.istore 9, 2) := by decide +kernel
theorem dX0_leftBehind_43 : decode mX0_leftBehind.2.1 43 = .ok (.iload 4, 2) := by decide +kernel
theorem dX0_leftBehind_45 : decode mX0_leftBehind.2.1 45 = .ok (.iload 8, 2) := by decide +kernel
theorem dX0_leftBehind_47 : decode mX0_leftBehind.2.1 47 = .ok (.iload_n 3, 1) := by decide +kernel
theorem dX0_leftBehind_48 : decode mX0_leftBehind.2.1 48 = .ok (.iload 9, 2) := by decide +kernel
theorem dX0_leftBehind_50 : decode mX0_leftBehind.2.1 50 = .ok (.invokestatic 59, 3) := by decide +kernel
theorem dX0_leftBehind_53 : decode mX0_leftBehind.2.1 53 = .ok (.invokestatic 63, 3) := by decide +kernel
theorem dX0_leftBehind_56 : decode mX0_leftBehind.2.1 56 = .ok (.istore 10, 2) := by decide +kernel
theorem dX0_leftBehind_58 : decode mX0_leftBehind.2.1 58 = .ok (.iload_n 3, 1) := by decide +kernel
theorem dX0_leftBehind_59 : decode mX0_leftBehind.2.1 59 = .ok (.iload 10, 2) := by decide +kernel
theorem dX0_leftBehind_61 : decode mX0_leftBehind.2.1 61 = .ok (.iload 9, 2) := by decide +kernel
theorem dX0_leftBehind_63 : decode mX0_leftBehind.2.1 63 = .ok (.imul, 1) := by decide +kernel
theorem dX0_leftBehind_64 : decode mX0_leftBehind.2.1 64 = .ok (.isub, 1) := by decide +kernel
theorem dX0_leftBehind_65 : decode mX0_leftBehind.2.1 65 = .ok (.istore_n 3, 1) := by decide +kernel
theorem dX0_leftBehind_66 : decode mX0_leftBehind.2.1 66 = .ok (.iload 4, 2) := by decide +kernel
theorem dX0_leftBehind_68 : decode mX0_leftBehind.2.1 68 = .ok (.iload 10, 2) := by decide +kernel
theorem dX0_leftBehind_70 : decode mX0_leftBehind.2.1 70 = .ok (.isub, 1) := by decide +kernel
theorem dX0_leftBehind_71 : decode mX0_leftBehind.2.1 71 = .ok (.istore 4, 2) := by decide +kernel
theorem dX0_leftBehind_73 : decode mX0_leftBehind.2.1 73 = .ok (.iinc 7 1, 3) := by decide +kernel
theorem dX0_leftBehind_76 : decode mX0_leftBehind.2.1 76 = .ok (.goto (-55), 3) := by decide +kernel
theorem dX0_leftBehind_79 : decode mX0_leftBehind.2.1 79 = .ok (.iconst 0, 1) := by decide +kernel
theorem dX0_leftBehind_80 : decode mX0_leftBehind.2.1 80 = .ok (.iload_n 3, 1) := by decide +kernel
theorem dX0_leftBehind_81 : decode mX0_leftBehind.2.1 81 = .ok (.invokestatic 47, 3) := by decide +kernel
theorem dX0_leftBehind_84 : decode mX0_leftBehind.2.1 84 = .ok (.ireturn, 1) := by decide +kernel
theorem dX0_daysDownTo_0 : decode mX0_daysDownTo.2.1 0 = .ok (.iload_n 1, 1) := by decide +kernel
theorem dX0_daysDownTo_1 : decode mX0_daysDownTo.2.1 1 = .ok (.iload_n 0, 1) := by decide +kernel
theorem dX0_daysDownTo_2 : decode mX0_daysDownTo.2.1 2 = .ok (.if_icmp .le 8, 3) := by decide +kernel
theorem dX0_daysDownTo_5 : decode mX0_daysDownTo.2.1 5 = .ok (.iload_n 2, 1) := by decide +kernel
theorem dX0_daysDownTo_6 : decode mX0_daysDownTo.2.1 6 = .ok (.iconst 1, 1) := by decide +kernel
theorem dX0_daysDownTo_7 : decode mX0_daysDownTo.2.1 7 = .ok (.if_icmp .ge 5, 3) := by decide +kernel
theorem dX0_daysDownTo_10 : decode mX0_daysDownTo.2.1 10 = .ok (.iconst 0, 1) := by decide +kernel
theorem dX0_daysDownTo_11 : decode mX0_daysDownTo.2.1 11 = .ok (.ireturn, 1) := by decide +kernel
theorem dX0_daysDownTo_12 : decode mX0_daysDownTo.2.1 12 = .ok (.iload_n 1, 1) := by decide +kernel
theorem dX0_daysDownTo_13 : decode mX0_daysDownTo.2.1 13 = .ok (.iload_n 0, 1) := by decide +kernel
theorem dX0_daysDownTo_14 : decode mX0_daysDownTo.2.1 14 = .ok (.isub, 1) := by decide +kernel
theorem dX0_daysDownTo_15 : decode mX0_daysDownTo.2.1 15 = .ok (.iload_n 2, 1) := by decide +kernel
theorem dX0_daysDownTo_16 : decode mX0_daysDownTo.2.1 16 = .ok (.iadd, 1) := by decide +kernel
theorem dX0_daysDownTo_17 : decode mX0_daysDownTo.2.1 17 = .ok (.iconst 1, 1) := by decide +kernel
theorem dX0_daysDownTo_18 : decode mX0_daysDownTo.2.1 18 = .ok (.isub, 1) := by decide +kernel
theorem dX0_daysDownTo_19 : decode mX0_daysDownTo.2.1 19 = .ok (.iload_n 2, 1) := by decide +kernel
theorem dX0_daysDownTo_20 : decode mX0_daysDownTo.2.1 20 = .ok (.idiv, 1) := by decide +kernel
theorem dX0_daysDownTo_21 : decode mX0_daysDownTo.2.1 21 = .ok (.ireturn, 1) := by decide +kernel
theorem dX0_tells_0 : decode mX0_tells.2.1 0 = .ok (.aload_n 0, 1) := by decide +kernel
theorem dX0_tells_1 : decode mX0_tells.2.1 1 = .ok (.getfield 9, 3) := by decide +kernel
theorem dX0_tells_4 : decode mX0_tells.2.1 4 = .ok (.tableswitch 64 1 6 #[40, 44, 46, 49, 62, 42], 40) := by decide +kernel
theorem dX0_tells_44 : decode mX0_tells.2.1 44 = .ok (.iconst 2, 1) := by decide +kernel
theorem dX0_tells_45 : decode mX0_tells.2.1 45 = .ok (.ireturn, 1) := by decide +kernel
theorem dX0_tells_46 : decode mX0_tells.2.1 46 = .ok (.iconst 4, 1) := by decide +kernel
theorem dX0_tells_47 : decode mX0_tells.2.1 47 = .ok (.ireturn, 1) := by decide +kernel
theorem dX0_tells_48 : decode mX0_tells.2.1 48 = .ok (.iconst 3, 1) := by decide +kernel
theorem dX0_tells_49 : decode mX0_tells.2.1 49 = .ok (.ireturn, 1) := by decide +kernel
theorem dX0_tells_50 : decode mX0_tells.2.1 50 = .ok (.bipush (-3), 2) := by decide +kernel
theorem dX0_tells_52 : decode mX0_tells.2.1 52 = .ok (.ireturn, 1) := by decide +kernel
theorem dX0_tells_53 : decode mX0_tells.2.1 53 = .ok (.bipush (-3), 2) := by decide +kernel
theorem dX0_tells_55 : decode mX0_tells.2.1 55 = .ok (.bipush 9, 2) := by decide +kernel
theorem dX0_tells_57 : decode mX0_tells.2.1 57 = .ok (.aload_n 0, 1) := by decide +kernel
theorem dX0_tells_58 : decode mX0_tells.2.1 58 = .ok (.getfield 38, 3) := by decide +kernel
theorem dX0_tells_61 : decode mX0_tells.2.1 61 = .ok (.invokestatic 63, 3) := by decide +kernel
theorem dX0_tells_64 : decode mX0_tells.2.1 64 = .ok (.iadd, 1) := by decide +kernel
theorem dX0_tells_65 : decode mX0_tells.2.1 65 = .ok (.ireturn, 1) := by decide +kernel
theorem dX0_tells_66 : decode mX0_tells.2.1 66 = .ok (.iconst 0, 1) := by decide +kernel
theorem dX0_tells_67 : decode mX0_tells.2.1 67 = .ok (.ireturn, 1) := by decide +kernel
theorem dX0_tells_68 : decode mX0_tells.2.1 68 = .ok (.iconst 1, 1) := by decide +kernel
theorem dX0_tells_69 : decode mX0_tells.2.1 69 = .ok (.ireturn, 1) := by decide +kernel
theorem dX0_hasTheSheaf_0 : decode mX0_hasTheSheaf.2.1 0 = .ok (.aload_n 0, 1) := by decide +kernel
theorem dX0_hasTheSheaf_1 : decode mX0_hasTheSheaf.2.1 1 = .ok (.getstatic 29, 3) := by decide +kernel
theorem dX0_hasTheSheaf_4 : decode mX0_hasTheSheaf.2.1 4 = .ok (.iconst 4, 1) := by decide +kernel
theorem dX0_hasTheSheaf_5 : decode mX0_hasTheSheaf.2.1 5 = .ok (.iaload, 1) := by decide +kernel
theorem dX0_hasTheSheaf_6 : decode mX0_hasTheSheaf.2.1 6 = .ok (.aload_n 0, 1) := by decide +kernel
theorem dX0_hasTheSheaf_7 : decode mX0_hasTheSheaf.2.1 7 = .ok (.getfield 38, 3) := by decide +kernel
theorem dX0_hasTheSheaf_10 : decode mX0_hasTheSheaf.2.1 10 = .ok (.iconst 1, 1) := by decide +kernel
theorem dX0_hasTheSheaf_11 : decode mX0_hasTheSheaf.2.1 11 = .ok (.iadd, 1) := by decide +kernel
theorem dX0_hasTheSheaf_12 : decode mX0_hasTheSheaf.2.1 12 = .ok (.invokestatic 63, 3) := by decide +kernel
theorem dX0_hasTheSheaf_15 : decode mX0_hasTheSheaf.2.1 15 = .ok (.putfield 38, 3) := by decide +kernel
theorem dX0_hasTheSheaf_18 : decode mX0_hasTheSheaf.2.1 18 = .ok (.aload_n 0, 1) := by decide +kernel
theorem dX0_hasTheSheaf_19 : decode mX0_hasTheSheaf.2.1 19 = .ok (.getfield 15, 3) := by decide +kernel
theorem dX0_hasTheSheaf_22 : decode mX0_hasTheSheaf.2.1 22 = .ok (.getstatic 29, 3) := by decide +kernel
theorem dX0_hasTheSheaf_25 : decode mX0_hasTheSheaf.2.1 25 = .ok (.iconst 2, 1) := by decide +kernel
theorem dX0_hasTheSheaf_26 : decode mX0_hasTheSheaf.2.1 26 = .ok (.iaload, 1) := by decide +kernel
theorem dX0_hasTheSheaf_27 : decode mX0_hasTheSheaf.2.1 27 = .ok (.if_icmp .ge 14, 3) := by decide +kernel
theorem dX0_hasTheSheaf_30 : decode mX0_hasTheSheaf.2.1 30 = .ok (.aload_n 0, 1) := by decide +kernel
theorem dX0_hasTheSheaf_31 : decode mX0_hasTheSheaf.2.1 31 = .ok (.iconst 2, 1) := by decide +kernel
theorem dX0_hasTheSheaf_32 : decode mX0_hasTheSheaf.2.1 32 = .ok (.aload_n 0, 1) := by decide +kernel
theorem dX0_hasTheSheaf_33 : decode mX0_hasTheSheaf.2.1 33 = .ok (.getfield 15, 3) := by decide +kernel
theorem dX0_hasTheSheaf_36 : decode mX0_hasTheSheaf.2.1 36 = .ok (.iconst 1, 1) := by decide +kernel
theorem dX0_hasTheSheaf_37 : decode mX0_hasTheSheaf.2.1 37 = .ok (.iadd, 1) := by decide +kernel
theorem dX0_hasTheSheaf_38 : decode mX0_hasTheSheaf.2.1 38 = .ok (.invokevirtual 66, 3) := by decide +kernel
theorem dX0_hasTheSheaf_41 : decode mX0_hasTheSheaf.2.1 41 = .ok (.return_, 1) := by decide +kernel
theorem dX0_losesHand_0 : decode mX0_losesHand.2.1 0 = .ok (.aload_n 0, 1) := by decide +kernel
theorem dX0_losesHand_1 : decode mX0_losesHand.2.1 1 = .ok (.getfield 15, 3) := by decide +kernel
theorem dX0_losesHand_4 : decode mX0_losesHand.2.1 4 = .ok (.getstatic 25, 3) := by decide +kernel
theorem dX0_losesHand_7 : decode mX0_losesHand.2.1 7 = .ok (.iconst 2, 1) := by decide +kernel
theorem dX0_losesHand_8 : decode mX0_losesHand.2.1 8 = .ok (.iaload, 1) := by decide +kernel
theorem dX0_losesHand_9 : decode mX0_losesHand.2.1 9 = .ok (.if_icmp .le 14, 3) := by decide +kernel
theorem dX0_losesHand_12 : decode mX0_losesHand.2.1 12 = .ok (.aload_n 0, 1) := by decide +kernel
theorem dX0_losesHand_13 : decode mX0_losesHand.2.1 13 = .ok (.iconst 2, 1) := by decide +kernel
theorem dX0_losesHand_14 : decode mX0_losesHand.2.1 14 = .ok (.aload_n 0, 1) := by decide +kernel
theorem dX0_losesHand_15 : decode mX0_losesHand.2.1 15 = .ok (.getfield 15, 3) := by decide +kernel
theorem dX0_losesHand_18 : decode mX0_losesHand.2.1 18 = .ok (.iconst 1, 1) := by decide +kernel
theorem dX0_losesHand_19 : decode mX0_losesHand.2.1 19 = .ok (.isub, 1) := by decide +kernel
theorem dX0_losesHand_20 : decode mX0_losesHand.2.1 20 = .ok (.invokevirtual 66, 3) := by decide +kernel
theorem dX0_losesHand_23 : decode mX0_losesHand.2.1 23 = .ok (.return_, 1) := by decide +kernel
theorem dX0_heeds_0 : decode mX0_heeds.2.1 0 = .ok (.iload_n 1, 1) := by decide +kernel
theorem dX0_heeds_1 : decode mX0_heeds.2.1 1 = .ok (.ifCond .le 24, 3) := by decide +kernel
theorem dX0_heeds_4 : decode mX0_heeds.2.1 4 = .ok (.aload_n 0, 1) := by decide +kernel
theorem dX0_heeds_5 : decode mX0_heeds.2.1 5 = .ok (.getstatic 29, 3) := by decide +kernel
theorem dX0_heeds_8 : decode mX0_heeds.2.1 8 = .ok (.iconst 3, 1) := by decide +kernel
theorem dX0_heeds_9 : decode mX0_heeds.2.1 9 = .ok (.iaload, 1) := by decide +kernel
theorem dX0_heeds_10 : decode mX0_heeds.2.1 10 = .ok (.aload_n 0, 1) := by decide +kernel
theorem dX0_heeds_11 : decode mX0_heeds.2.1 11 = .ok (.getfield 35, 3) := by decide +kernel
theorem dX0_heeds_14 : decode mX0_heeds.2.1 14 = .ok (.iconst 1, 1) := by decide +kernel
theorem dX0_heeds_15 : decode mX0_heeds.2.1 15 = .ok (.iadd, 1) := by decide +kernel
theorem dX0_heeds_16 : decode mX0_heeds.2.1 16 = .ok (.invokestatic 63, 3) := by decide +kernel
theorem dX0_heeds_19 : decode mX0_heeds.2.1 19 = .ok (.putfield 35, 3) := by decide +kernel
theorem dX0_heeds_22 : decode mX0_heeds.2.1 22 = .ok (.goto 25, 3) := by decide +kernel
theorem dX0_heeds_25 : decode mX0_heeds.2.1 25 = .ok (.iload_n 1, 1) := by decide +kernel
theorem dX0_heeds_26 : decode mX0_heeds.2.1 26 = .ok (.ifCond .ge 21, 3) := by decide +kernel
theorem dX0_heeds_29 : decode mX0_heeds.2.1 29 = .ok (.aload_n 0, 1) := by decide +kernel
theorem dX0_heeds_30 : decode mX0_heeds.2.1 30 = .ok (.getstatic 25, 3) := by decide +kernel
theorem dX0_heeds_33 : decode mX0_heeds.2.1 33 = .ok (.iconst 3, 1) := by decide +kernel
theorem dX0_heeds_34 : decode mX0_heeds.2.1 34 = .ok (.iaload, 1) := by decide +kernel
theorem dX0_heeds_35 : decode mX0_heeds.2.1 35 = .ok (.aload_n 0, 1) := by decide +kernel
theorem dX0_heeds_36 : decode mX0_heeds.2.1 36 = .ok (.getfield 35, 3) := by decide +kernel
theorem dX0_heeds_39 : decode mX0_heeds.2.1 39 = .ok (.iconst 1, 1) := by decide +kernel
theorem dX0_heeds_40 : decode mX0_heeds.2.1 40 = .ok (.isub, 1) := by decide +kernel
theorem dX0_heeds_41 : decode mX0_heeds.2.1 41 = .ok (.invokestatic 47, 3) := by decide +kernel
theorem dX0_heeds_44 : decode mX0_heeds.2.1 44 = .ok (.putfield 35, 3) := by decide +kernel
theorem dX0_heeds_47 : decode mX0_heeds.2.1 47 = .ok (.return_, 1) := by decide +kernel
theorem dX1_becomes_0 : decode mX1_becomes.2.1 0 = .ok (.aload_n 1, 1) := by decide +kernel
theorem dX1_becomes_1 : decode mX1_becomes.2.1 1 = .ok (.getfield 11, 3) := by decide +kernel
theorem dX1_becomes_4 : decode mX1_becomes.2.1 4 = .ok (.iconst 0, 1) := by decide +kernel
theorem dX1_becomes_5 : decode mX1_becomes.2.1 5 = .ok (.aload_n 0, 1) := by decide +kernel
theorem dX1_becomes_6 : decode mX1_becomes.2.1 6 = .ok (.getfield 11, 3) := by decide +kernel
theorem dX1_becomes_9 : decode mX1_becomes.2.1 9 = .ok (.iconst 0, 1) := by decide +kernel
theorem dX1_becomes_10 : decode mX1_becomes.2.1 10 = .ok (.iconst 3, 1) := by decide +kernel
theorem dX1_becomes_11 : decode mX1_becomes.2.1 11 = .ok (.invokestatic 31, 3) := by decide +kernel
theorem dX1_becomes_14 : decode mX1_becomes.2.1 14 = .ok (.aload_n 1, 1) := by decide +kernel
theorem dX1_becomes_15 : decode mX1_becomes.2.1 15 = .ok (.getfield 24, 3) := by decide +kernel
theorem dX1_becomes_18 : decode mX1_becomes.2.1 18 = .ok (.iconst 0, 1) := by decide +kernel
theorem dX1_becomes_19 : decode mX1_becomes.2.1 19 = .ok (.aload_n 0, 1) := by decide +kernel
theorem dX1_becomes_20 : decode mX1_becomes.2.1 20 = .ok (.getfield 24, 3) := by decide +kernel
theorem dX1_becomes_23 : decode mX1_becomes.2.1 23 = .ok (.iconst 0, 1) := by decide +kernel
theorem dX1_becomes_24 : decode mX1_becomes.2.1 24 = .ok (.bipush 10, 2) := by decide +kernel
theorem dX1_becomes_26 : decode mX1_becomes.2.1 26 = .ok (.invokestatic 31, 3) := by decide +kernel
theorem dX1_becomes_29 : decode mX1_becomes.2.1 29 = .ok (.iconst 0, 1) := by decide +kernel
theorem dX1_becomes_30 : decode mX1_becomes.2.1 30 = .ok (.istore_n 2, 1) := by decide +kernel
theorem dX1_becomes_31 : decode mX1_becomes.2.1 31 = .ok (.iload_n 2, 1) := by decide +kernel
theorem dX1_becomes_32 : decode mX1_becomes.2.1 32 = .ok (.aload_n 1, 1) := by decide +kernel
theorem dX1_becomes_33 : decode mX1_becomes.2.1 33 = .ok (.getfield 37, 3) := by decide +kernel
theorem dX1_becomes_36 : decode mX1_becomes.2.1 36 = .ok (.if_icmp .ge 24, 3) := by decide +kernel
theorem dX1_becomes_39 : decode mX1_becomes.2.1 39 = .ok (.aload_n 0, 1) := by decide +kernel
theorem dX1_becomes_40 : decode mX1_becomes.2.1 40 = .ok (.getfield 19, 3) := by decide +kernel
theorem dX1_becomes_43 : decode mX1_becomes.2.1 43 = .ok (.iload_n 2, 1) := by decide +kernel
theorem dX1_becomes_44 : decode mX1_becomes.2.1 44 = .ok (.aaload, 1) := by decide +kernel
theorem dX1_becomes_45 : decode mX1_becomes.2.1 45 = .ok (.aload_n 1, 1) := by decide +kernel
theorem dX1_becomes_46 : decode mX1_becomes.2.1 46 = .ok (.getfield 19, 3) := by decide +kernel
theorem dX1_becomes_49 : decode mX1_becomes.2.1 49 = .ok (.iload_n 2, 1) := by decide +kernel
theorem dX1_becomes_50 : decode mX1_becomes.2.1 50 = .ok (.aaload, 1) := by decide +kernel
theorem dX1_becomes_51 : decode mX1_becomes.2.1 51 = .ok (.invokevirtual 40, 3) := by decide +kernel
theorem dX1_becomes_54 : decode mX1_becomes.2.1 54 = .ok (.iinc 2 1, 3) := by decide +kernel
theorem dX1_becomes_57 : decode mX1_becomes.2.1 57 = .ok (.goto (-26), 3) := by decide +kernel
theorem dX1_becomes_60 : decode mX1_becomes.2.1 60 = .ok (.aload_n 0, 1) := by decide +kernel
theorem dX1_becomes_61 : decode mX1_becomes.2.1 61 = .ok (.aload_n 1, 1) := by decide +kernel
theorem dX1_becomes_62 : decode mX1_becomes.2.1 62 = .ok (.getfield 37, 3) := by decide +kernel
theorem dX1_becomes_65 : decode mX1_becomes.2.1 65 = .ok (.putfield 37, 3) := by decide +kernel
theorem dX1_becomes_68 : decode mX1_becomes.2.1 68 = .ok (.aload_n 0, 1) := by decide +kernel
theorem dX1_becomes_69 : decode mX1_becomes.2.1 69 = .ok (.aload_n 1, 1) := by decide +kernel
theorem dX1_becomes_70 : decode mX1_becomes.2.1 70 = .ok (.getfield 44, 3) := by decide +kernel
theorem dX1_becomes_73 : decode mX1_becomes.2.1 73 = .ok (.putfield 44, 3) := by decide +kernel
theorem dX1_becomes_76 : decode mX1_becomes.2.1 76 = .ok (.aload_n 0, 1) := by decide +kernel
theorem dX1_becomes_77 : decode mX1_becomes.2.1 77 = .ok (.aload_n 1, 1) := by decide +kernel
theorem dX1_becomes_78 : decode mX1_becomes.2.1 78 = .ok (.getfield 27, 3) := by decide +kernel
theorem dX1_becomes_81 : decode mX1_becomes.2.1 81 = .ok (.putfield 27, 3) := by decide +kernel
theorem dX1_becomes_84 : decode mX1_becomes.2.1 84 = .ok (.return_, 1) := by decide +kernel
theorem dX1_hasFarm_0 : decode mX1_hasFarm.2.1 0 = .ok (.iload_n 1, 1) := by decide +kernel
theorem dX1_hasFarm_1 : decode mX1_hasFarm.2.1 1 = .ok (.iconst 0, 1) := by decide +kernel
theorem dX1_hasFarm_2 : decode mX1_hasFarm.2.1 2 = .ok (.aload_n 0, 1) := by decide +kernel
theorem dX1_hasFarm_3 : decode mX1_hasFarm.2.1 3 = .ok (.getfield 37, 3) := by decide +kernel
theorem dX1_hasFarm_6 : decode mX1_hasFarm.2.1 6 = .ok (.iconst 1, 1) := by decide +kernel
theorem dX1_hasFarm_7 : decode mX1_hasFarm.2.1 7 = .ok (.isub, 1) := by decide +kernel
theorem dX1_hasFarm_8 : decode mX1_hasFarm.2.1 8 = .ok (.invokestatic 47, 3) := by decide +kernel
theorem dX1_hasFarm_11 : decode mX1_hasFarm.2.1 11 = .ok (.ireturn, 1) := by decide +kernel
theorem dX1_isFull_0 : decode mX1_isFull.2.1 0 = .ok (.aload_n 0, 1) := by decide +kernel
theorem dX1_isFull_1 : decode mX1_isFull.2.1 1 = .ok (.getfield 37, 3) := by decide +kernel
theorem dX1_isFull_4 : decode mX1_isFull.2.1 4 = .ok (.bipush 8, 2) := by decide +kernel
theorem dX1_isFull_6 : decode mX1_isFull.2.1 6 = .ok (.if_icmp .lt 7, 3) := by decide +kernel
theorem dX1_isFull_9 : decode mX1_isFull.2.1 9 = .ok (.iconst 1, 1) := by decide +kernel
theorem dX1_isFull_10 : decode mX1_isFull.2.1 10 = .ok (.goto 4, 3) := by decide +kernel
theorem dX1_isFull_13 : decode mX1_isFull.2.1 13 = .ok (.iconst 0, 1) := by decide +kernel
theorem dX1_isFull_14 : decode mX1_isFull.2.1 14 = .ok (.ireturn, 1) := by decide +kernel
theorem dX1_addFarm_0 : decode mX1_addFarm.2.1 0 = .ok (.aload_n 0, 1) := by decide +kernel
theorem dX1_addFarm_1 : decode mX1_addFarm.2.1 1 = .ok (.getfield 37, 3) := by decide +kernel
theorem dX1_addFarm_4 : decode mX1_addFarm.2.1 4 = .ok (.istore_n 3, 1) := by decide +kernel
theorem dX1_addFarm_5 : decode mX1_addFarm.2.1 5 = .ok (.aload_n 0, 1) := by decide +kernel
theorem dX1_addFarm_6 : decode mX1_addFarm.2.1 6 = .ok (.getfield 19, 3) := by decide +kernel
theorem dX1_addFarm_9 : decode mX1_addFarm.2.1 9 = .ok (.iload_n 3, 1) := by decide +kernel
theorem dX1_addFarm_10 : decode mX1_addFarm.2.1 10 = .ok (.aaload, 1) := by decide +kernel
theorem dX1_addFarm_11 : decode mX1_addFarm.2.1 11 = .ok (.iload_n 1, 1) := by decide +kernel
theorem dX1_addFarm_12 : decode mX1_addFarm.2.1 12 = .ok (.iload_n 2, 1) := by decide +kernel
theorem dX1_addFarm_13 : decode mX1_addFarm.2.1 13 = .ok (.invokevirtual 51, 3) := by decide +kernel
theorem dX1_addFarm_16 : decode mX1_addFarm.2.1 16 = .ok (.aload_n 0, 1) := by decide +kernel
theorem dX1_addFarm_17 : decode mX1_addFarm.2.1 17 = .ok (.dup, 1) := by decide +kernel
theorem dX1_addFarm_18 : decode mX1_addFarm.2.1 18 = .ok (.getfield 37, 3) := by decide +kernel
theorem dX1_addFarm_21 : decode mX1_addFarm.2.1 21 = .ok (.iconst 1, 1) := by decide +kernel
theorem dX1_addFarm_22 : decode mX1_addFarm.2.1 22 = .ok (.iadd, 1) := by decide +kernel
theorem dX1_addFarm_23 : decode mX1_addFarm.2.1 23 = .ok (.putfield 37, 3) := by decide +kernel
theorem dX1_addFarm_26 : decode mX1_addFarm.2.1 26 = .ok (.iload_n 3, 1) := by decide +kernel
theorem dX1_addFarm_27 : decode mX1_addFarm.2.1 27 = .ok (.ireturn, 1) := by decide +kernel
theorem dX1_mostDays_0 : decode mX1_mostDays.2.1 0 = .ok (.iconst 0, 1) := by decide +kernel
theorem dX1_mostDays_1 : decode mX1_mostDays.2.1 1 = .ok (.istore_n 1, 1) := by decide +kernel
theorem dX1_mostDays_2 : decode mX1_mostDays.2.1 2 = .ok (.iconst 0, 1) := by decide +kernel
theorem dX1_mostDays_3 : decode mX1_mostDays.2.1 3 = .ok (.istore_n 2, 1) := by decide +kernel
theorem dX1_mostDays_4 : decode mX1_mostDays.2.1 4 = .ok (.iload_n 2, 1) := by decide +kernel
theorem dX1_mostDays_5 : decode mX1_mostDays.2.1 5 = .ok (.aload_n 0, 1) := by decide +kernel
theorem dX1_mostDays_6 : decode mX1_mostDays.2.1 6 = .ok (.getfield 37, 3) := by decide +kernel
theorem dX1_mostDays_9 : decode mX1_mostDays.2.1 9 = .ok (.if_icmp .ge 29, 3) := by decide +kernel
theorem dX1_mostDays_12 : decode mX1_mostDays.2.1 12 = .ok (.iload_n 1, 1) := by decide +kernel
theorem dX1_mostDays_13 : decode mX1_mostDays.2.1 13 = .ok (.aload_n 0, 1) := by decide +kernel
theorem dX1_mostDays_14 : decode mX1_mostDays.2.1 14 = .ok (.getfield 19, 3) := by decide +kernel
theorem dX1_mostDays_17 : decode mX1_mostDays.2.1 17 = .ok (.iload_n 2, 1) := by decide +kernel
theorem dX1_mostDays_18 : decode mX1_mostDays.2.1 18 = .ok (.aaload, 1) := by decide +kernel
theorem dX1_mostDays_19 : decode mX1_mostDays.2.1 19 = .ok (.aload_n 0, 1) := by decide +kernel
theorem dX1_mostDays_20 : decode mX1_mostDays.2.1 20 = .ok (.getfield 11, 3) := by decide +kernel
theorem dX1_mostDays_23 : decode mX1_mostDays.2.1 23 = .ok (.iconst 0, 1) := by decide +kernel
theorem dX1_mostDays_24 : decode mX1_mostDays.2.1 24 = .ok (.iaload, 1) := by decide +kernel
theorem dX1_mostDays_25 : decode mX1_mostDays.2.1 25 = .ok (.invokevirtual 55, 3) := by decide +kernel
theorem dX1_mostDays_28 : decode mX1_mostDays.2.1 28 = .ok (.invokestatic 59, 3) := by decide +kernel
theorem dX1_mostDays_31 : decode mX1_mostDays.2.1 31 = .ok (.istore_n 1, 1) := by decide +kernel
theorem dX1_mostDays_32 : decode mX1_mostDays.2.1 32 = .ok (.iinc 2 1, 3) := by decide +kernel
theorem dX1_mostDays_35 : decode mX1_mostDays.2.1 35 = .ok (.goto (-31), 3) := by decide +kernel
theorem dX1_mostDays_38 : decode mX1_mostDays.2.1 38 = .ok (.iload_n 1, 1) := by decide +kernel
theorem dX1_mostDays_39 : decode mX1_mostDays.2.1 39 = .ok (.ireturn, 1) := by decide +kernel
theorem dX1_latest_0 : decode mX1_latest.2.1 0 = .ok (.aload_n 0, 1) := by decide +kernel
theorem dX1_latest_1 : decode mX1_latest.2.1 1 = .ok (.ldc 65, 2) := by decide +kernel
theorem dX1_latest_3 : decode mX1_latest.2.1 3 = .ok (.invokevirtual 66, 3) := by decide +kernel
theorem dX1_latest_6 : decode mX1_latest.2.1 6 = .ok (.ireturn, 1) := by decide +kernel
theorem dX1_latestBelow_0 : decode mX1_latestBelow.2.1 0 = .ok (.iconst 0, 1) := by decide +kernel
theorem dX1_latestBelow_1 : decode mX1_latestBelow.2.1 1 = .ok (.istore_n 2, 1) := by decide +kernel
theorem dX1_latestBelow_2 : decode mX1_latestBelow.2.1 2 = .ok (.iconst 0, 1) := by decide +kernel
theorem dX1_latestBelow_3 : decode mX1_latestBelow.2.1 3 = .ok (.istore_n 3, 1) := by decide +kernel
theorem dX1_latestBelow_4 : decode mX1_latestBelow.2.1 4 = .ok (.iconst 0, 1) := by decide +kernel
theorem dX1_latestBelow_5 : decode mX1_latestBelow.2.1 5 = .ok (.istore 4, 2) := by decide +kernel
theorem dX1_latestBelow_7 : decode mX1_latestBelow.2.1 7 = .ok (.iload 4, 2) := by decide +kernel
theorem dX1_latestBelow_9 : decode mX1_latestBelow.2.1 9 = .ok (.aload_n 0, 1) := by decide +kernel
theorem dX1_latestBelow_10 : decode mX1_latestBelow.2.1 10 = .ok (.getfield 37, 3) := by decide +kernel
theorem dX1_latestBelow_13 : decode mX1_latestBelow.2.1 13 = .ok (.if_icmp .ge 65, 3) := by decide +kernel
theorem dX1_latestBelow_16 : decode mX1_latestBelow.2.1 16 = .ok (.aload_n 0, 1) := by decide +kernel
theorem dX1_latestBelow_17 : decode mX1_latestBelow.2.1 17 = .ok (.getfield 19, 3) := by decide +kernel
theorem dX1_latestBelow_20 : decode mX1_latestBelow.2.1 20 = .ok (.iload 4, 2) := by decide +kernel
theorem dX1_latestBelow_22 : decode mX1_latestBelow.2.1 22 = .ok (.aaload, 1) := by decide +kernel
theorem dX1_latestBelow_23 : decode mX1_latestBelow.2.1 23 = .ok (.aload_n 0, 1) := by decide +kernel
theorem dX1_latestBelow_24 : decode mX1_latestBelow.2.1 24 = .ok (.getfield 11, 3) := by decide +kernel
theorem dX1_latestBelow_27 : decode mX1_latestBelow.2.1 27 = .ok (.iconst 0, 1) := by decide +kernel
theorem dX1_latestBelow_28 : decode mX1_latestBelow.2.1 28 = .ok (.iaload, 1) := by decide +kernel
theorem dX1_latestBelow_29 : decode mX1_latestBelow.2.1 29 = .ok (.invokevirtual 55, 3) := by decide +kernel
theorem dX1_latestBelow_32 : decode mX1_latestBelow.2.1 32 = .ok (.istore 5, 2) := by decide +kernel
theorem dX1_latestBelow_34 : decode mX1_latestBelow.2.1 34 = .ok (.iload 5, 2) := by decide +kernel
theorem dX1_latestBelow_36 : decode mX1_latestBelow.2.1 36 = .ok (.iload_n 1, 1) := by decide +kernel
theorem dX1_latestBelow_37 : decode mX1_latestBelow.2.1 37 = .ok (.if_icmp .ge 35, 3) := by decide +kernel
theorem dX1_latestBelow_40 : decode mX1_latestBelow.2.1 40 = .ok (.iload 5, 2) := by decide +kernel
theorem dX1_latestBelow_42 : decode mX1_latestBelow.2.1 42 = .ok (.iload_n 3, 1) := by decide +kernel
theorem dX1_latestBelow_43 : decode mX1_latestBelow.2.1 43 = .ok (.if_icmp .ge 6, 3) := by decide +kernel
theorem dX1_latestBelow_46 : decode mX1_latestBelow.2.1 46 = .ok (.goto 26, 3) := by decide +kernel
theorem dX1_latestBelow_49 : decode mX1_latestBelow.2.1 49 = .ok (.iload 5, 2) := by decide +kernel
theorem dX1_latestBelow_51 : decode mX1_latestBelow.2.1 51 = .ok (.iload_n 3, 1) := by decide +kernel
theorem dX1_latestBelow_52 : decode mX1_latestBelow.2.1 52 = .ok (.if_icmp .le 10, 3) := by decide +kernel
theorem dX1_latestBelow_55 : decode mX1_latestBelow.2.1 55 = .ok (.iconst 1, 1) := by decide +kernel
theorem dX1_latestBelow_56 : decode mX1_latestBelow.2.1 56 = .ok (.iload 4, 2) := by decide +kernel
theorem dX1_latestBelow_58 : decode mX1_latestBelow.2.1 58 = .ok (.ishl, 1) := by decide +kernel
theorem dX1_latestBelow_59 : decode mX1_latestBelow.2.1 59 = .ok (.goto 9, 3) := by decide +kernel
theorem dX1_latestBelow_62 : decode mX1_latestBelow.2.1 62 = .ok (.iload_n 2, 1) := by decide +kernel
theorem dX1_latestBelow_63 : decode mX1_latestBelow.2.1 63 = .ok (.iconst 1, 1) := by decide +kernel
theorem dX1_latestBelow_64 : decode mX1_latestBelow.2.1 64 = .ok (.iload 4, 2) := by decide +kernel
theorem dX1_latestBelow_66 : decode mX1_latestBelow.2.1 66 = .ok (.ishl, 1) := by decide +kernel
theorem dX1_latestBelow_67 : decode mX1_latestBelow.2.1 67 = .ok (.ior, 1) := by decide +kernel
theorem dX1_latestBelow_68 : decode mX1_latestBelow.2.1 68 = .ok (.istore_n 2, 1) := by decide +kernel
theorem dX1_latestBelow_69 : decode mX1_latestBelow.2.1 69 = .ok (.iload 5, 2) := by decide +kernel
theorem dX1_latestBelow_71 : decode mX1_latestBelow.2.1 71 = .ok (.istore_n 3, 1) := by decide +kernel
theorem dX1_latestBelow_72 : decode mX1_latestBelow.2.1 72 = .ok (.iinc 4 1, 3) := by decide +kernel
theorem dX1_latestBelow_75 : decode mX1_latestBelow.2.1 75 = .ok (.goto (-68), 3) := by decide +kernel
theorem dX1_latestBelow_78 : decode mX1_latestBelow.2.1 78 = .ok (.iload_n 2, 1) := by decide +kernel
theorem dX1_latestBelow_79 : decode mX1_latestBelow.2.1 79 = .ok (.ireturn, 1) := by decide +kernel
theorem dX1_earliest_0 : decode mX1_earliest.2.1 0 = .ok (.iconst 0, 1) := by decide +kernel
theorem dX1_earliest_1 : decode mX1_earliest.2.1 1 = .ok (.istore_n 1, 1) := by decide +kernel
theorem dX1_earliest_2 : decode mX1_earliest.2.1 2 = .ok (.ldc 65, 2) := by decide +kernel
theorem dX1_earliest_4 : decode mX1_earliest.2.1 4 = .ok (.istore_n 2, 1) := by decide +kernel
theorem dX1_earliest_5 : decode mX1_earliest.2.1 5 = .ok (.iconst 0, 1) := by decide +kernel
theorem dX1_earliest_6 : decode mX1_earliest.2.1 6 = .ok (.istore_n 3, 1) := by decide +kernel
theorem dX1_earliest_7 : decode mX1_earliest.2.1 7 = .ok (.iload_n 3, 1) := by decide +kernel
theorem dX1_earliest_8 : decode mX1_earliest.2.1 8 = .ok (.aload_n 0, 1) := by decide +kernel
theorem dX1_earliest_9 : decode mX1_earliest.2.1 9 = .ok (.getfield 37, 3) := by decide +kernel
theorem dX1_earliest_12 : decode mX1_earliest.2.1 12 = .ok (.if_icmp .ge 56, 3) := by decide +kernel
theorem dX1_earliest_15 : decode mX1_earliest.2.1 15 = .ok (.aload_n 0, 1) := by decide +kernel
theorem dX1_earliest_16 : decode mX1_earliest.2.1 16 = .ok (.getfield 19, 3) := by decide +kernel
theorem dX1_earliest_19 : decode mX1_earliest.2.1 19 = .ok (.iload_n 3, 1) := by decide +kernel
theorem dX1_earliest_20 : decode mX1_earliest.2.1 20 = .ok (.aaload, 1) := by decide +kernel
theorem dX1_earliest_21 : decode mX1_earliest.2.1 21 = .ok (.aload_n 0, 1) := by decide +kernel
theorem dX1_earliest_22 : decode mX1_earliest.2.1 22 = .ok (.getfield 11, 3) := by decide +kernel
theorem dX1_earliest_25 : decode mX1_earliest.2.1 25 = .ok (.iconst 0, 1) := by decide +kernel
theorem dX1_earliest_26 : decode mX1_earliest.2.1 26 = .ok (.iaload, 1) := by decide +kernel
theorem dX1_earliest_27 : decode mX1_earliest.2.1 27 = .ok (.invokevirtual 55, 3) := by decide +kernel
theorem dX1_earliest_30 : decode mX1_earliest.2.1 30 = .ok (.istore 4, 2) := by decide +kernel
theorem dX1_earliest_32 : decode mX1_earliest.2.1 32 = .ok (.iload 4, 2) := by decide +kernel
theorem dX1_earliest_34 : decode mX1_earliest.2.1 34 = .ok (.iload_n 2, 1) := by decide +kernel
theorem dX1_earliest_35 : decode mX1_earliest.2.1 35 = .ok (.if_icmp .le 6, 3) := by decide +kernel
theorem dX1_earliest_38 : decode mX1_earliest.2.1 38 = .ok (.goto 24, 3) := by decide +kernel
theorem dX1_earliest_41 : decode mX1_earliest.2.1 41 = .ok (.iload 4, 2) := by decide +kernel
theorem dX1_earliest_43 : decode mX1_earliest.2.1 43 = .ok (.iload_n 2, 1) := by decide +kernel
theorem dX1_earliest_44 : decode mX1_earliest.2.1 44 = .ok (.if_icmp .ge 9, 3) := by decide +kernel
theorem dX1_earliest_47 : decode mX1_earliest.2.1 47 = .ok (.iconst 1, 1) := by decide +kernel
theorem dX1_earliest_48 : decode mX1_earliest.2.1 48 = .ok (.iload_n 3, 1) := by decide +kernel
theorem dX1_earliest_49 : decode mX1_earliest.2.1 49 = .ok (.ishl, 1) := by decide +kernel
theorem dX1_earliest_50 : decode mX1_earliest.2.1 50 = .ok (.goto 8, 3) := by decide +kernel
theorem dX1_earliest_53 : decode mX1_earliest.2.1 53 = .ok (.iload_n 1, 1) := by decide +kernel
theorem dX1_earliest_54 : decode mX1_earliest.2.1 54 = .ok (.iconst 1, 1) := by decide +kernel
theorem dX1_earliest_55 : decode mX1_earliest.2.1 55 = .ok (.iload_n 3, 1) := by decide +kernel
theorem dX1_earliest_56 : decode mX1_earliest.2.1 56 = .ok (.ishl, 1) := by decide +kernel
theorem dX1_earliest_57 : decode mX1_earliest.2.1 57 = .ok (.ior, 1) := by decide +kernel
theorem dX1_earliest_58 : decode mX1_earliest.2.1 58 = .ok (.istore_n 1, 1) := by decide +kernel
theorem dX1_earliest_59 : decode mX1_earliest.2.1 59 = .ok (.iload 4, 2) := by decide +kernel
theorem dX1_earliest_61 : decode mX1_earliest.2.1 61 = .ok (.istore_n 2, 1) := by decide +kernel
theorem dX1_earliest_62 : decode mX1_earliest.2.1 62 = .ok (.iinc 3 1, 3) := by decide +kernel
theorem dX1_earliest_65 : decode mX1_earliest.2.1 65 = .ok (.goto (-58), 3) := by decide +kernel
theorem dX1_earliest_68 : decode mX1_earliest.2.1 68 = .ok (.iload_n 1, 1) := by decide +kernel
theorem dX1_earliest_69 : decode mX1_earliest.2.1 69 = .ok (.ireturn, 1) := by decide +kernel
theorem dX1_isLatest_0 : decode mX1_isLatest.2.1 0 = .ok (.aload_n 0, 1) := by decide +kernel
theorem dX1_isLatest_1 : decode mX1_isLatest.2.1 1 = .ok (.ldc 65, 2) := by decide +kernel
theorem dX1_isLatest_3 : decode mX1_isLatest.2.1 3 = .ok (.invokevirtual 66, 3) := by decide +kernel
theorem dX1_isLatest_6 : decode mX1_isLatest.2.1 6 = .ok (.iload_n 1, 1) := by decide +kernel
theorem dX1_isLatest_7 : decode mX1_isLatest.2.1 7 = .ok (.invokestatic 69, 3) := by decide +kernel
theorem dX1_isLatest_10 : decode mX1_isLatest.2.1 10 = .ok (.ireturn, 1) := by decide +kernel
theorem dX1_leanNow_0 : decode mX1_leanNow.2.1 0 = .ok (.aload_n 0, 1) := by decide +kernel
theorem dX1_leanNow_1 : decode mX1_leanNow.2.1 1 = .ok (.aload_n 0, 1) := by decide +kernel
theorem dX1_leanNow_2 : decode mX1_leanNow.2.1 2 = .ok (.ldc 65, 2) := by decide +kernel
theorem dX1_leanNow_4 : decode mX1_leanNow.2.1 4 = .ok (.invokevirtual 66, 3) := by decide +kernel
theorem dX1_leanNow_7 : decode mX1_leanNow.2.1 7 = .ok (.invokevirtual 73, 3) := by decide +kernel
theorem dX1_leanNow_10 : decode mX1_leanNow.2.1 10 = .ok (.ireturn, 1) := by decide +kernel
theorem dX1_leanBy_0 : decode mX1_leanBy.2.1 0 = .ok (.iconst 0, 1) := by decide +kernel
theorem dX1_leanBy_1 : decode mX1_leanBy.2.1 1 = .ok (.istore_n 2, 1) := by decide +kernel
theorem dX1_leanBy_2 : decode mX1_leanBy.2.1 2 = .ok (.iconst 0, 1) := by decide +kernel
theorem dX1_leanBy_3 : decode mX1_leanBy.2.1 3 = .ok (.istore_n 3, 1) := by decide +kernel
theorem dX1_leanBy_4 : decode mX1_leanBy.2.1 4 = .ok (.iload_n 3, 1) := by decide +kernel
theorem dX1_leanBy_5 : decode mX1_leanBy.2.1 5 = .ok (.aload_n 0, 1) := by decide +kernel
theorem dX1_leanBy_6 : decode mX1_leanBy.2.1 6 = .ok (.getfield 37, 3) := by decide +kernel
theorem dX1_leanBy_9 : decode mX1_leanBy.2.1 9 = .ok (.if_icmp .ge 49, 3) := by decide +kernel
theorem dX1_leanBy_12 : decode mX1_leanBy.2.1 12 = .ok (.iload_n 1, 1) := by decide +kernel
theorem dX1_leanBy_13 : decode mX1_leanBy.2.1 13 = .ok (.iload_n 3, 1) := by decide +kernel
theorem dX1_leanBy_14 : decode mX1_leanBy.2.1 14 = .ok (.invokestatic 69, 3) := by decide +kernel
theorem dX1_leanBy_17 : decode mX1_leanBy.2.1 17 = .ok (.ifCond .eq 7, 3) := by decide +kernel
theorem dX1_leanBy_20 : decode mX1_leanBy.2.1 20 = .ok (.iconst 3, 1) := by decide +kernel
theorem dX1_leanBy_21 : decode mX1_leanBy.2.1 21 = .ok (.goto 4, 3) := by decide +kernel
theorem dX1_leanBy_24 : decode mX1_leanBy.2.1 24 = .ok (.iconst 1, 1) := by decide +kernel
theorem dX1_leanBy_25 : decode mX1_leanBy.2.1 25 = .ok (.istore 4, 2) := by decide +kernel
theorem dX1_leanBy_27 : decode mX1_leanBy.2.1 27 = .ok (.iload_n 2, 1) := by decide +kernel
theorem dX1_leanBy_28 : decode mX1_leanBy.2.1 28 = .ok (.iload 4, 2) := by decide +kernel
theorem dX1_leanBy_30 : decode mX1_leanBy.2.1 30 = .ok (.aload_n 0, 1) := by decide +kernel
theorem dX1_leanBy_31 : decode mX1_leanBy.2.1 31 = .ok (.getfield 19, 3) := by decide +kernel
theorem dX1_leanBy_34 : decode mX1_leanBy.2.1 34 = .ok (.iload_n 3, 1) := by decide +kernel
theorem dX1_leanBy_35 : decode mX1_leanBy.2.1 35 = .ok (.aaload, 1) := by decide +kernel
theorem dX1_leanBy_36 : decode mX1_leanBy.2.1 36 = .ok (.getfield 76, 3) := by decide +kernel
theorem dX1_leanBy_39 : decode mX1_leanBy.2.1 39 = .ok (.imul, 1) := by decide +kernel
theorem dX1_leanBy_40 : decode mX1_leanBy.2.1 40 = .ok (.aload_n 0, 1) := by decide +kernel
theorem dX1_leanBy_41 : decode mX1_leanBy.2.1 41 = .ok (.getfield 19, 3) := by decide +kernel
theorem dX1_leanBy_44 : decode mX1_leanBy.2.1 44 = .ok (.iload_n 3, 1) := by decide +kernel
theorem dX1_leanBy_45 : decode mX1_leanBy.2.1 45 = .ok (.aaload, 1) := by decide +kernel
theorem dX1_leanBy_46 : decode mX1_leanBy.2.1 46 = .ok (.invokevirtual 79, 3) := by decide +kernel
theorem dX1_leanBy_49 : decode mX1_leanBy.2.1 49 = .ok (.imul, 1) := by decide +kernel
theorem dX1_leanBy_50 : decode mX1_leanBy.2.1 50 = .ok (.iadd, 1) := by decide +kernel
theorem dX1_leanBy_51 : decode mX1_leanBy.2.1 51 = .ok (.istore_n 2, 1) := by decide +kernel
theorem dX1_leanBy_52 : decode mX1_leanBy.2.1 52 = .ok (.iinc 3 1, 3) := by decide +kernel
theorem dX1_leanBy_55 : decode mX1_leanBy.2.1 55 = .ok (.goto (-51), 3) := by decide +kernel
theorem dX1_leanBy_58 : decode mX1_leanBy.2.1 58 = .ok (.iconst 0, 1) := by decide +kernel
theorem dX1_leanBy_59 : decode mX1_leanBy.2.1 59 = .ok (.iload_n 2, 1) := by decide +kernel
theorem dX1_leanBy_60 : decode mX1_leanBy.2.1 60 = .ok (.invokestatic 83, 3) := by decide +kernel
theorem dX1_leanBy_63 : decode mX1_leanBy.2.1 63 = .ok (.aload_n 0, 1) := by decide +kernel
theorem dX1_leanBy_64 : decode mX1_leanBy.2.1 64 = .ok (.getfield 11, 3) := by decide +kernel
theorem dX1_leanBy_67 : decode mX1_leanBy.2.1 67 = .ok (.iconst 1, 1) := by decide +kernel
theorem dX1_leanBy_68 : decode mX1_leanBy.2.1 68 = .ok (.iaload, 1) := by decide +kernel
theorem dX1_leanBy_69 : decode mX1_leanBy.2.1 69 = .ok (.bipush 10, 2) := by decide +kernel
theorem dX1_leanBy_71 : decode mX1_leanBy.2.1 71 = .ok (.idiv, 1) := by decide +kernel
theorem dX1_leanBy_72 : decode mX1_leanBy.2.1 72 = .ok (.isub, 1) := by decide +kernel
theorem dX1_leanBy_73 : decode mX1_leanBy.2.1 73 = .ok (.invokestatic 59, 3) := by decide +kernel
theorem dX1_leanBy_76 : decode mX1_leanBy.2.1 76 = .ok (.istore_n 3, 1) := by decide +kernel
theorem dX1_leanBy_77 : decode mX1_leanBy.2.1 77 = .ok (.iload_n 2, 1) := by decide +kernel
theorem dX1_leanBy_78 : decode mX1_leanBy.2.1 78 = .ok (.ifCond .ge 8, 3) := by decide +kernel
theorem dX1_leanBy_81 : decode mX1_leanBy.2.1 81 = .ok (.iload_n 3, 1) := by decide +kernel
theorem dX1_leanBy_82 : decode mX1_leanBy.2.1 82 = .ok (.ineg, 1) := by decide +kernel
theorem dX1_leanBy_83 : decode mX1_leanBy.2.1 83 = .ok (.goto 4, 3) := by decide +kernel
theorem dX1_leanBy_86 : decode mX1_leanBy.2.1 86 = .ok (.iload_n 3, 1) := by decide +kernel
theorem dX1_leanBy_87 : decode mX1_leanBy.2.1 87 = .ok (.istore 4, 2) := by decide +kernel
theorem dX1_leanBy_89 : decode mX1_leanBy.2.1 89 = .ok (.aload_n 0, 1) := by decide +kernel
theorem dX1_leanBy_90 : decode mX1_leanBy.2.1 90 = .ok (.getfield 11, 3) := by decide +kernel
theorem dX1_leanBy_93 : decode mX1_leanBy.2.1 93 = .ok (.iconst 2, 1) := by decide +kernel
theorem dX1_leanBy_94 : decode mX1_leanBy.2.1 94 = .ok (.iaload, 1) := by decide +kernel
theorem dX1_leanBy_95 : decode mX1_leanBy.2.1 95 = .ok (.bipush 60, 2) := by decide +kernel
theorem dX1_leanBy_97 : decode mX1_leanBy.2.1 97 = .ok (.if_icmp .lt 9, 3) := by decide +kernel
theorem dX1_leanBy_100 : decode mX1_leanBy.2.1 100 = .ok (.iload 4, 2) := by decide +kernel
theorem dX1_leanBy_102 : decode mX1_leanBy.2.1 102 = .ok (.ineg, 1) := by decide +kernel
theorem dX1_leanBy_103 : decode mX1_leanBy.2.1 103 = .ok (.goto 5, 3) := by decide +kernel
theorem dX1_leanBy_106 : decode mX1_leanBy.2.1 106 = .ok (.iload 4, 2) := by decide +kernel
theorem dX1_leanBy_108 : decode mX1_leanBy.2.1 108 = .ok (.ireturn, 1) := by decide +kernel
theorem dX1_answerTo_0 : decode mX1_answerTo.2.1 0 = .ok (.aload_n 0, 1) := by decide +kernel
theorem dX1_answerTo_1 : decode mX1_answerTo.2.1 1 = .ok (.aload_n 0, 1) := by decide +kernel
theorem dX1_answerTo_2 : decode mX1_answerTo.2.1 2 = .ok (.ldc 65, 2) := by decide +kernel
theorem dX1_answerTo_4 : decode mX1_answerTo.2.1 4 = .ok (.invokevirtual 66, 3) := by decide +kernel
theorem dX1_answerTo_7 : decode mX1_answerTo.2.1 7 = .ok (.invokevirtual 73, 3) := by decide +kernel
theorem dX1_answerTo_10 : decode mX1_answerTo.2.1 10 = .ok (.iload_n 1, 1) := by decide +kernel
theorem dX1_answerTo_11 : decode mX1_answerTo.2.1 11 = .ok (.if_icmp .lt 7, 3) := by decide +kernel
theorem dX1_answerTo_14 : decode mX1_answerTo.2.1 14 = .ok (.iconst 1, 1) := by decide +kernel
theorem dX1_answerTo_15 : decode mX1_answerTo.2.1 15 = .ok (.goto 4, 3) := by decide +kernel
theorem dX1_answerTo_18 : decode mX1_answerTo.2.1 18 = .ok (.iconst 0, 1) := by decide +kernel
theorem dX1_answerTo_19 : decode mX1_answerTo.2.1 19 = .ok (.ireturn, 1) := by decide +kernel
theorem dX1_passYear_0 : decode mX1_passYear.2.1 0 = .ok (.aload_n 0, 1) := by decide +kernel
theorem dX1_passYear_1 : decode mX1_passYear.2.1 1 = .ok (.ldc 65, 2) := by decide +kernel
theorem dX1_passYear_3 : decode mX1_passYear.2.1 3 = .ok (.invokevirtual 66, 3) := by decide +kernel
theorem dX1_passYear_6 : decode mX1_passYear.2.1 6 = .ok (.istore_n 1, 1) := by decide +kernel
theorem dX1_passYear_7 : decode mX1_passYear.2.1 7 = .ok (.aload_n 0, 1) := by decide +kernel
theorem dX1_passYear_8 : decode mX1_passYear.2.1 8 = .ok (.invokevirtual 86, 3) := by decide +kernel
theorem dX1_passYear_11 : decode mX1_passYear.2.1 11 = .ok (.istore_n 2, 1) := by decide +kernel
theorem dX1_passYear_12 : decode mX1_passYear.2.1 12 = .ok (.aload_n 0, 1) := by decide +kernel
theorem dX1_passYear_13 : decode mX1_passYear.2.1 13 = .ok (.iload_n 1, 1) := by decide +kernel
theorem dX1_passYear_14 : decode mX1_passYear.2.1 14 = .ok (.invokevirtual 73, 3) := by decide +kernel
theorem dX1_passYear_17 : decode mX1_passYear.2.1 17 = .ok (.istore_n 3, 1) := by decide +kernel
theorem dX1_passYear_18 : decode mX1_passYear.2.1 18 = .ok (.iconst 0, 1) := by decide +kernel
theorem dX1_passYear_19 : decode mX1_passYear.2.1 19 = .ok (.istore 4, 2) := by decide +kernel
theorem dX1_passYear_21 : decode mX1_passYear.2.1 21 = .ok (.iload 4, 2) := by decide +kernel
theorem dX1_passYear_23 : decode mX1_passYear.2.1 23 = .ok (.aload_n 0, 1) := by decide +kernel
theorem dX1_passYear_24 : decode mX1_passYear.2.1 24 = .ok (.getfield 37, 3) := by decide +kernel
theorem dX1_passYear_27 : decode mX1_passYear.2.1 27 = .ok (.if_icmp .ge 55, 3) := by decide +kernel
theorem dX1_passYear_30 : decode mX1_passYear.2.1 30 = .ok (.aload_n 0, 1) := by decide +kernel
theorem dX1_passYear_31 : decode mX1_passYear.2.1 31 = .ok (.getfield 19, 3) := by decide +kernel
theorem dX1_passYear_34 : decode mX1_passYear.2.1 34 = .ok (.iload 4, 2) := by decide +kernel
theorem dX1_passYear_36 : decode mX1_passYear.2.1 36 = .ok (.aaload, 1) := by decide +kernel
theorem dX1_passYear_37 : decode mX1_passYear.2.1 37 = .ok (.astore 5, 2) := by decide +kernel
theorem dX1_passYear_39 : decode mX1_passYear.2.1 39 = .ok (.iload_n 1, 1) := by decide +kernel
theorem dX1_passYear_40 : decode mX1_passYear.2.1 40 = .ok (.iload 4, 2) := by decide +kernel
theorem dX1_passYear_42 : decode mX1_passYear.2.1 42 = .ok (.invokestatic 69, 3) := by decide +kernel
theorem dX1_passYear_45 : decode mX1_passYear.2.1 45 = .ok (.ifCond .eq 11, 3) := by decide +kernel
theorem dX1_passYear_48 : decode mX1_passYear.2.1 48 = .ok (.aload 5, 2) := by decide +kernel
theorem dX1_passYear_50 : decode mX1_passYear.2.1 50 = .ok (.invokevirtual 89, 3) := by decide +kernel
theorem dX1_passYear_53 : decode mX1_passYear.2.1 53 = .ok (.goto 23, 3) := by decide +kernel
theorem dX1_passYear_56 : decode mX1_passYear.2.1 56 = .ok (.iload_n 2, 1) := by decide +kernel
theorem dX1_passYear_57 : decode mX1_passYear.2.1 57 = .ok (.iload 4, 2) := by decide +kernel
theorem dX1_passYear_59 : decode mX1_passYear.2.1 59 = .ok (.invokestatic 69, 3) := by decide +kernel
theorem dX1_passYear_62 : decode mX1_passYear.2.1 62 = .ok (.ifCond .eq 8, 3) := by decide +kernel
theorem dX1_passYear_65 : decode mX1_passYear.2.1 65 = .ok (.aload 5, 2) := by decide +kernel
theorem dX1_passYear_67 : decode mX1_passYear.2.1 67 = .ok (.invokevirtual 92, 3) := by decide +kernel
theorem dX1_passYear_70 : decode mX1_passYear.2.1 70 = .ok (.aload 5, 2) := by decide +kernel
theorem dX1_passYear_72 : decode mX1_passYear.2.1 72 = .ok (.iload_n 3, 1) := by decide +kernel
theorem dX1_passYear_73 : decode mX1_passYear.2.1 73 = .ok (.invokevirtual 95, 3) := by decide +kernel
theorem dX1_passYear_76 : decode mX1_passYear.2.1 76 = .ok (.iinc 4 1, 3) := by decide +kernel
theorem dX1_passYear_79 : decode mX1_passYear.2.1 79 = .ok (.goto (-58), 3) := by decide +kernel
theorem dX1_passYear_82 : decode mX1_passYear.2.1 82 = .ok (.aload_n 0, 1) := by decide +kernel
theorem dX1_passYear_83 : decode mX1_passYear.2.1 83 = .ok (.ldc 99, 2) := by decide +kernel
theorem dX1_passYear_85 : decode mX1_passYear.2.1 85 = .ok (.aload_n 0, 1) := by decide +kernel
theorem dX1_passYear_86 : decode mX1_passYear.2.1 86 = .ok (.getfield 44, 3) := by decide +kernel
theorem dX1_passYear_89 : decode mX1_passYear.2.1 89 = .ok (.iconst 1, 1) := by decide +kernel
theorem dX1_passYear_90 : decode mX1_passYear.2.1 90 = .ok (.iadd, 1) := by decide +kernel
theorem dX1_passYear_91 : decode mX1_passYear.2.1 91 = .ok (.invokestatic 100, 3) := by decide +kernel
theorem dX1_passYear_94 : decode mX1_passYear.2.1 94 = .ok (.putfield 44, 3) := by decide +kernel
theorem dX1_passYear_97 : decode mX1_passYear.2.1 97 = .ok (.return_, 1) := by decide +kernel
theorem dX1_together_0 : decode mX1_together.2.1 0 = .ok (.iconst 0, 1) := by decide +kernel
theorem dX1_together_1 : decode mX1_together.2.1 1 = .ok (.istore_n 2, 1) := by decide +kernel
theorem dX1_together_2 : decode mX1_together.2.1 2 = .ok (.iconst 0, 1) := by decide +kernel
theorem dX1_together_3 : decode mX1_together.2.1 3 = .ok (.istore_n 3, 1) := by decide +kernel
theorem dX1_together_4 : decode mX1_together.2.1 4 = .ok (.iload_n 3, 1) := by decide +kernel
theorem dX1_together_5 : decode mX1_together.2.1 5 = .ok (.aload_n 0, 1) := by decide +kernel
theorem dX1_together_6 : decode mX1_together.2.1 6 = .ok (.getfield 37, 3) := by decide +kernel
theorem dX1_together_9 : decode mX1_together.2.1 9 = .ok (.if_icmp .ge 22, 3) := by decide +kernel
theorem dX1_together_12 : decode mX1_together.2.1 12 = .ok (.iload_n 2, 1) := by decide +kernel
theorem dX1_together_13 : decode mX1_together.2.1 13 = .ok (.aload_n 0, 1) := by decide +kernel
theorem dX1_together_14 : decode mX1_together.2.1 14 = .ok (.getfield 19, 3) := by decide +kernel
theorem dX1_together_17 : decode mX1_together.2.1 17 = .ok (.iload_n 3, 1) := by decide +kernel
theorem dX1_together_18 : decode mX1_together.2.1 18 = .ok (.aaload, 1) := by decide +kernel
theorem dX1_together_19 : decode mX1_together.2.1 19 = .ok (.iload_n 1, 1) := by decide +kernel
theorem dX1_together_20 : decode mX1_together.2.1 20 = .ok (.invokevirtual 103, 3) := by decide +kernel
theorem dX1_together_23 : decode mX1_together.2.1 23 = .ok (.iadd, 1) := by decide +kernel
theorem dX1_together_24 : decode mX1_together.2.1 24 = .ok (.istore_n 2, 1) := by decide +kernel
theorem dX1_together_25 : decode mX1_together.2.1 25 = .ok (.iinc 3 1, 3) := by decide +kernel
theorem dX1_together_28 : decode mX1_together.2.1 28 = .ok (.goto (-24), 3) := by decide +kernel
theorem dX1_together_31 : decode mX1_together.2.1 31 = .ok (.iload_n 2, 1) := by decide +kernel
theorem dX1_together_32 : decode mX1_together.2.1 32 = .ok (.ireturn, 1) := by decide +kernel
theorem dX1_whoHadIt_0 : decode mX1_whoHadIt.2.1 0 = .ok (.iconst 0, 1) := by decide +kernel
theorem dX1_whoHadIt_1 : decode mX1_whoHadIt.2.1 1 = .ok (.istore_n 1, 1) := by decide +kernel
theorem dX1_whoHadIt_2 : decode mX1_whoHadIt.2.1 2 = .ok (.iconst 0, 1) := by decide +kernel
theorem dX1_whoHadIt_3 : decode mX1_whoHadIt.2.1 3 = .ok (.istore_n 2, 1) := by decide +kernel
theorem dX1_whoHadIt_4 : decode mX1_whoHadIt.2.1 4 = .ok (.iload_n 2, 1) := by decide +kernel
theorem dX1_whoHadIt_5 : decode mX1_whoHadIt.2.1 5 = .ok (.aload_n 0, 1) := by decide +kernel
theorem dX1_whoHadIt_6 : decode mX1_whoHadIt.2.1 6 = .ok (.getfield 37, 3) := by decide +kernel
theorem dX1_whoHadIt_9 : decode mX1_whoHadIt.2.1 9 = .ok (.if_icmp .ge 27, 3) := by decide +kernel
theorem dX1_whoHadIt_12 : decode mX1_whoHadIt.2.1 12 = .ok (.aload_n 0, 1) := by decide +kernel
theorem dX1_whoHadIt_13 : decode mX1_whoHadIt.2.1 13 = .ok (.getfield 19, 3) := by decide +kernel
theorem dX1_whoHadIt_16 : decode mX1_whoHadIt.2.1 16 = .ok (.iload_n 2, 1) := by decide +kernel
theorem dX1_whoHadIt_17 : decode mX1_whoHadIt.2.1 17 = .ok (.aaload, 1) := by decide +kernel
theorem dX1_whoHadIt_18 : decode mX1_whoHadIt.2.1 18 = .ok (.getfield 106, 3) := by decide +kernel
theorem dX1_whoHadIt_21 : decode mX1_whoHadIt.2.1 21 = .ok (.ifCond .le 9, 3) := by decide +kernel
theorem dX1_whoHadIt_24 : decode mX1_whoHadIt.2.1 24 = .ok (.iload_n 1, 1) := by decide +kernel
theorem dX1_whoHadIt_25 : decode mX1_whoHadIt.2.1 25 = .ok (.iconst 1, 1) := by decide +kernel
theorem dX1_whoHadIt_26 : decode mX1_whoHadIt.2.1 26 = .ok (.iload_n 2, 1) := by decide +kernel
theorem dX1_whoHadIt_27 : decode mX1_whoHadIt.2.1 27 = .ok (.ishl, 1) := by decide +kernel
theorem dX1_whoHadIt_28 : decode mX1_whoHadIt.2.1 28 = .ok (.ior, 1) := by decide +kernel
theorem dX1_whoHadIt_29 : decode mX1_whoHadIt.2.1 29 = .ok (.istore_n 1, 1) := by decide +kernel
theorem dX1_whoHadIt_30 : decode mX1_whoHadIt.2.1 30 = .ok (.iinc 2 1, 3) := by decide +kernel
theorem dX1_whoHadIt_33 : decode mX1_whoHadIt.2.1 33 = .ok (.goto (-29), 3) := by decide +kernel
theorem dX1_whoHadIt_36 : decode mX1_whoHadIt.2.1 36 = .ok (.iload_n 1, 1) := by decide +kernel
theorem dX1_whoHadIt_37 : decode mX1_whoHadIt.2.1 37 = .ok (.ireturn, 1) := by decide +kernel
theorem dX1_spotsHeld_0 : decode mX1_spotsHeld.2.1 0 = .ok (.iconst 0, 1) := by decide +kernel
theorem dX1_spotsHeld_1 : decode mX1_spotsHeld.2.1 1 = .ok (.istore_n 1, 1) := by decide +kernel
theorem dX1_spotsHeld_2 : decode mX1_spotsHeld.2.1 2 = .ok (.aload_n 0, 1) := by decide +kernel
theorem dX1_spotsHeld_3 : decode mX1_spotsHeld.2.1 3 = .ok (.getfield 24, 3) := by decide +kernel
theorem dX1_spotsHeld_6 : decode mX1_spotsHeld.2.1 6 = .ok (.astore_n 2, 1) := by decide +kernel
theorem dX1_spotsHeld_7 : decode mX1_spotsHeld.2.1 7 = .ok (.aload_n 2, 1) := by decide +kernel
theorem dX1_spotsHeld_8 : decode mX1_spotsHeld.2.1 8 = .ok (.arraylength, 1) := by decide +kernel
theorem dX1_spotsHeld_9 : decode mX1_spotsHeld.2.1 9 = .ok (.istore_n 3, 1) := by decide +kernel
theorem dX1_spotsHeld_10 : decode mX1_spotsHeld.2.1 10 = .ok (.iconst 0, 1) := by decide +kernel
theorem dX1_spotsHeld_11 : decode mX1_spotsHeld.2.1 11 = .ok (.istore 4, 2) := by decide +kernel
theorem dX1_spotsHeld_13 : decode mX1_spotsHeld.2.1 13 = .ok (.iload 4, 2) := by decide +kernel
theorem dX1_spotsHeld_15 : decode mX1_spotsHeld.2.1 15 = .ok (.iload_n 3, 1) := by decide +kernel
theorem dX1_spotsHeld_16 : decode mX1_spotsHeld.2.1 16 = .ok (.if_icmp .ge 24, 3) := by decide +kernel
theorem dX1_spotsHeld_19 : decode mX1_spotsHeld.2.1 19 = .ok (.aload_n 2, 1) := by decide +kernel
theorem dX1_spotsHeld_20 : decode mX1_spotsHeld.2.1 20 = .ok (.iload 4, 2) := by decide +kernel
theorem dX1_spotsHeld_22 : decode mX1_spotsHeld.2.1 22 = .ok (.iaload, 1) := by decide +kernel
theorem dX1_spotsHeld_23 : decode mX1_spotsHeld.2.1 23 = .ok (.istore 5, 2) := by decide +kernel
theorem dX1_spotsHeld_25 : decode mX1_spotsHeld.2.1 25 = .ok (.iload 5, 2) := by decide +kernel
theorem dX1_spotsHeld_27 : decode mX1_spotsHeld.2.1 27 = .ok (.iconst (-1), 1) := by decide +kernel
theorem dX1_spotsHeld_28 : decode mX1_spotsHeld.2.1 28 = .ok (.if_icmp .eq 6, 3) := by decide +kernel
theorem dX1_spotsHeld_31 : decode mX1_spotsHeld.2.1 31 = .ok (.iinc 1 1, 3) := by decide +kernel
theorem dX1_spotsHeld_34 : decode mX1_spotsHeld.2.1 34 = .ok (.iinc 4 1, 3) := by decide +kernel
theorem dX1_spotsHeld_37 : decode mX1_spotsHeld.2.1 37 = .ok (.goto (-24), 3) := by decide +kernel
theorem dX1_spotsHeld_40 : decode mX1_spotsHeld.2.1 40 = .ok (.iload_n 1, 1) := by decide +kernel
theorem dX1_spotsHeld_41 : decode mX1_spotsHeld.2.1 41 = .ok (.ireturn, 1) := by decide +kernel
theorem dX1_draw_0 : decode mX1_draw.2.1 0 = .ok (.aload_n 0, 1) := by decide +kernel
theorem dX1_draw_1 : decode mX1_draw.2.1 1 = .ok (.aload_n 0, 1) := by decide +kernel
theorem dX1_draw_2 : decode mX1_draw.2.1 2 = .ok (.getfield 27, 3) := by decide +kernel
theorem dX1_draw_5 : decode mX1_draw.2.1 5 = .ok (.ldc 109, 2) := by decide +kernel
theorem dX1_draw_7 : decode mX1_draw.2.1 7 = .ok (.imul, 1) := by decide +kernel
theorem dX1_draw_8 : decode mX1_draw.2.1 8 = .ok (.sipush 12345, 3) := by decide +kernel
theorem dX1_draw_11 : decode mX1_draw.2.1 11 = .ok (.iadd, 1) := by decide +kernel
theorem dX1_draw_12 : decode mX1_draw.2.1 12 = .ok (.putfield 27, 3) := by decide +kernel
theorem dX1_draw_15 : decode mX1_draw.2.1 15 = .ok (.aload_n 0, 1) := by decide +kernel
theorem dX1_draw_16 : decode mX1_draw.2.1 16 = .ok (.getfield 27, 3) := by decide +kernel
theorem dX1_draw_19 : decode mX1_draw.2.1 19 = .ok (.bipush 8, 2) := by decide +kernel
theorem dX1_draw_21 : decode mX1_draw.2.1 21 = .ok (.iushr, 1) := by decide +kernel
theorem dX1_draw_22 : decode mX1_draw.2.1 22 = .ok (.ireturn, 1) := by decide +kernel
theorem dX2_mayHave_0 : decode mX2_mayHave.2.1 0 = .ok (.iload_n 0, 1) := by decide +kernel
theorem dX2_mayHave_1 : decode mX2_mayHave.2.1 1 = .ok (.ifCond .eq 21, 3) := by decide +kernel
theorem dX2_mayHave_4 : decode mX2_mayHave.2.1 4 = .ok (.iload_n 0, 1) := by decide +kernel
theorem dX2_mayHave_5 : decode mX2_mayHave.2.1 5 = .ok (.bipush 8, 2) := by decide +kernel
theorem dX2_mayHave_7 : decode mX2_mayHave.2.1 7 = .ok (.if_icmp .eq 15, 3) := by decide +kernel
theorem dX2_mayHave_10 : decode mX2_mayHave.2.1 10 = .ok (.iload_n 0, 1) := by decide +kernel
theorem dX2_mayHave_11 : decode mX2_mayHave.2.1 11 = .ok (.bipush 16, 2) := by decide +kernel
theorem dX2_mayHave_13 : decode mX2_mayHave.2.1 13 = .ok (.if_icmp .eq 9, 3) := by decide +kernel
theorem dX2_mayHave_16 : decode mX2_mayHave.2.1 16 = .ok (.iload_n 0, 1) := by decide +kernel
theorem dX2_mayHave_17 : decode mX2_mayHave.2.1 17 = .ok (.bipush 32, 2) := by decide +kernel
theorem dX2_mayHave_19 : decode mX2_mayHave.2.1 19 = .ok (.if_icmp .ne 7, 3) := by decide +kernel
theorem dX2_mayHave_22 : decode mX2_mayHave.2.1 22 = .ok (.iconst 1, 1) := by decide +kernel
theorem dX2_mayHave_23 : decode mX2_mayHave.2.1 23 = .ok (.goto 4, 3) := by decide +kernel
theorem dX2_mayHave_26 : decode mX2_mayHave.2.1 26 = .ok (.iconst 0, 1) := by decide +kernel
theorem dX2_mayHave_27 : decode mX2_mayHave.2.1 27 = .ok (.ireturn, 1) := by decide +kernel
theorem dX2_begin_0 : decode mX2_begin.2.1 0 = .ok (.aload_n 0, 1) := by decide +kernel
theorem dX2_begin_1 : decode mX2_begin.2.1 1 = .ok (.iload_n 1, 1) := by decide +kernel
theorem dX2_begin_2 : decode mX2_begin.2.1 2 = .ok (.putfield 15, 3) := by decide +kernel
theorem dX2_begin_5 : decode mX2_begin.2.1 5 = .ok (.aload_n 0, 1) := by decide +kernel
theorem dX2_begin_6 : decode mX2_begin.2.1 6 = .ok (.iload_n 1, 1) := by decide +kernel
theorem dX2_begin_7 : decode mX2_begin.2.1 7 = .ok (.ifCond .ne 7, 3) := by decide +kernel
theorem dX2_begin_10 : decode mX2_begin.2.1 10 = .ok (.iconst 0, 1) := by decide +kernel
theorem dX2_begin_11 : decode mX2_begin.2.1 11 = .ok (.goto 4, 3) := by decide +kernel
theorem dX2_begin_14 : decode mX2_begin.2.1 14 = .ok (.iload_n 2, 1) := by decide +kernel
theorem dX2_begin_15 : decode mX2_begin.2.1 15 = .ok (.putfield 19, 3) := by decide +kernel
theorem dX2_begin_18 : decode mX2_begin.2.1 18 = .ok (.iconst 0, 1) := by decide +kernel
theorem dX2_begin_19 : decode mX2_begin.2.1 19 = .ok (.istore_n 3, 1) := by decide +kernel
theorem dX2_begin_20 : decode mX2_begin.2.1 20 = .ok (.iload_n 3, 1) := by decide +kernel
theorem dX2_begin_21 : decode mX2_begin.2.1 21 = .ok (.bipush 40, 2) := by decide +kernel
theorem dX2_begin_23 : decode mX2_begin.2.1 23 = .ok (.if_icmp .ge 16, 3) := by decide +kernel
theorem dX2_begin_26 : decode mX2_begin.2.1 26 = .ok (.aload_n 0, 1) := by decide +kernel
theorem dX2_begin_27 : decode mX2_begin.2.1 27 = .ok (.getfield 9, 3) := by decide +kernel
theorem dX2_begin_30 : decode mX2_begin.2.1 30 = .ok (.iload_n 3, 1) := by decide +kernel
theorem dX2_begin_31 : decode mX2_begin.2.1 31 = .ok (.iconst 0, 1) := by decide +kernel
theorem dX2_begin_32 : decode mX2_begin.2.1 32 = .ok (.iastore, 1) := by decide +kernel
theorem dX2_begin_33 : decode mX2_begin.2.1 33 = .ok (.iinc 3 1, 3) := by decide +kernel
theorem dX2_begin_36 : decode mX2_begin.2.1 36 = .ok (.goto (-16), 3) := by decide +kernel
theorem dX2_begin_39 : decode mX2_begin.2.1 39 = .ok (.return_, 1) := by decide +kernel
theorem dX2_isMissing_0 : decode mX2_isMissing.2.1 0 = .ok (.aload_n 0, 1) := by decide +kernel
theorem dX2_isMissing_1 : decode mX2_isMissing.2.1 1 = .ok (.getfield 15, 3) := by decide +kernel
theorem dX2_isMissing_4 : decode mX2_isMissing.2.1 4 = .ok (.ifCond .ne 7, 3) := by decide +kernel
theorem dX2_isMissing_7 : decode mX2_isMissing.2.1 7 = .ok (.iconst 1, 1) := by decide +kernel
theorem dX2_isMissing_8 : decode mX2_isMissing.2.1 8 = .ok (.goto 4, 3) := by decide +kernel
theorem dX2_isMissing_11 : decode mX2_isMissing.2.1 11 = .ok (.iconst 0, 1) := by decide +kernel
theorem dX2_isMissing_12 : decode mX2_isMissing.2.1 12 = .ok (.ireturn, 1) := by decide +kernel
theorem dX2_put_0 : decode mX2_put.2.1 0 = .ok (.aload_n 0, 1) := by decide +kernel
theorem dX2_put_1 : decode mX2_put.2.1 1 = .ok (.getfield 15, 3) := by decide +kernel
theorem dX2_put_4 : decode mX2_put.2.1 4 = .ok (.bipush 8, 2) := by decide +kernel
theorem dX2_put_6 : decode mX2_put.2.1 6 = .ok (.if_icmp .ne 14, 3) := by decide +kernel
theorem dX2_put_9 : decode mX2_put.2.1 9 = .ok (.aload_n 0, 1) := by decide +kernel
theorem dX2_put_10 : decode mX2_put.2.1 10 = .ok (.getfield 9, 3) := by decide +kernel
theorem dX2_put_13 : decode mX2_put.2.1 13 = .ok (.iload_n 1, 1) := by decide +kernel
theorem dX2_put_14 : decode mX2_put.2.1 14 = .ok (.iload_n 2, 1) := by decide +kernel
theorem dX2_put_15 : decode mX2_put.2.1 15 = .ok (.i2b, 1) := by decide +kernel
theorem dX2_put_16 : decode mX2_put.2.1 16 = .ok (.iastore, 1) := by decide +kernel
theorem dX2_put_17 : decode mX2_put.2.1 17 = .ok (.goto 30, 3) := by decide +kernel
theorem dX2_put_20 : decode mX2_put.2.1 20 = .ok (.aload_n 0, 1) := by decide +kernel
theorem dX2_put_21 : decode mX2_put.2.1 21 = .ok (.getfield 15, 3) := by decide +kernel
theorem dX2_put_24 : decode mX2_put.2.1 24 = .ok (.bipush 16, 2) := by decide +kernel
theorem dX2_put_26 : decode mX2_put.2.1 26 = .ok (.if_icmp .ne 14, 3) := by decide +kernel
theorem dX2_put_29 : decode mX2_put.2.1 29 = .ok (.aload_n 0, 1) := by decide +kernel
theorem dX2_put_30 : decode mX2_put.2.1 30 = .ok (.getfield 9, 3) := by decide +kernel
theorem dX2_put_33 : decode mX2_put.2.1 33 = .ok (.iload_n 1, 1) := by decide +kernel
theorem dX2_put_34 : decode mX2_put.2.1 34 = .ok (.iload_n 2, 1) := by decide +kernel
theorem dX2_put_35 : decode mX2_put.2.1 35 = .ok (.i2s, 1) := by decide +kernel
theorem dX2_put_36 : decode mX2_put.2.1 36 = .ok (.iastore, 1) := by decide +kernel
theorem dX2_put_37 : decode mX2_put.2.1 37 = .ok (.goto 10, 3) := by decide +kernel
theorem dX2_put_40 : decode mX2_put.2.1 40 = .ok (.aload_n 0, 1) := by decide +kernel
theorem dX2_put_41 : decode mX2_put.2.1 41 = .ok (.getfield 9, 3) := by decide +kernel
theorem dX2_put_44 : decode mX2_put.2.1 44 = .ok (.iload_n 1, 1) := by decide +kernel
theorem dX2_put_45 : decode mX2_put.2.1 45 = .ok (.iload_n 2, 1) := by decide +kernel
theorem dX2_put_46 : decode mX2_put.2.1 46 = .ok (.iastore, 1) := by decide +kernel
theorem dX2_put_47 : decode mX2_put.2.1 47 = .ok (.return_, 1) := by decide +kernel
theorem dX2_hasRow_0 : decode mX2_hasRow.2.1 0 = .ok (.iload_n 1, 1) := by decide +kernel
theorem dX2_hasRow_1 : decode mX2_hasRow.2.1 1 = .ok (.ifCond .lt 21, 3) := by decide +kernel
theorem dX2_hasRow_4 : decode mX2_hasRow.2.1 4 = .ok (.iload_n 2, 1) := by decide +kernel
theorem dX2_hasRow_5 : decode mX2_hasRow.2.1 5 = .ok (.ifCond .lt 17, 3) := by decide +kernel
theorem dX2_hasRow_8 : decode mX2_hasRow.2.1 8 = .ok (.iload_n 2, 1) := by decide +kernel
theorem dX2_hasRow_9 : decode mX2_hasRow.2.1 9 = .ok (.aload_n 0, 1) := by decide +kernel
theorem dX2_hasRow_10 : decode mX2_hasRow.2.1 10 = .ok (.getfield 19, 3) := by decide +kernel
theorem dX2_hasRow_13 : decode mX2_hasRow.2.1 13 = .ok (.iload_n 1, 1) := by decide +kernel
theorem dX2_hasRow_14 : decode mX2_hasRow.2.1 14 = .ok (.isub, 1) := by decide +kernel
theorem dX2_hasRow_15 : decode mX2_hasRow.2.1 15 = .ok (.if_icmp .gt 7, 3) := by decide +kernel
theorem dX2_hasRow_18 : decode mX2_hasRow.2.1 18 = .ok (.iconst 1, 1) := by decide +kernel
theorem dX2_hasRow_19 : decode mX2_hasRow.2.1 19 = .ok (.goto 4, 3) := by decide +kernel
theorem dX2_hasRow_22 : decode mX2_hasRow.2.1 22 = .ok (.iconst 0, 1) := by decide +kernel
theorem dX2_hasRow_23 : decode mX2_hasRow.2.1 23 = .ok (.ireturn, 1) := by decide +kernel
theorem dX3_add_0 : decode mX3_add.2.1 0 = .ok (.aload_n 0, 1) := by decide +kernel
theorem dX3_add_1 : decode mX3_add.2.1 1 = .ok (.getfield 15, 3) := by decide +kernel
theorem dX3_add_4 : decode mX3_add.2.1 4 = .ok (.bipush 120, 2) := by decide +kernel
theorem dX3_add_6 : decode mX3_add.2.1 6 = .ok (.if_icmp .ge 23, 3) := by decide +kernel
theorem dX3_add_9 : decode mX3_add.2.1 9 = .ok (.aload_n 0, 1) := by decide +kernel
theorem dX3_add_10 : decode mX3_add.2.1 10 = .ok (.getfield 9, 3) := by decide +kernel
theorem dX3_add_13 : decode mX3_add.2.1 13 = .ok (.aload_n 0, 1) := by decide +kernel
theorem dX3_add_14 : decode mX3_add.2.1 14 = .ok (.getfield 15, 3) := by decide +kernel
theorem dX3_add_17 : decode mX3_add.2.1 17 = .ok (.iload_n 1, 1) := by decide +kernel
theorem dX3_add_18 : decode mX3_add.2.1 18 = .ok (.bastore, 1) := by decide +kernel
theorem dX3_add_19 : decode mX3_add.2.1 19 = .ok (.aload_n 0, 1) := by decide +kernel
theorem dX3_add_20 : decode mX3_add.2.1 20 = .ok (.dup, 1) := by decide +kernel
theorem dX3_add_21 : decode mX3_add.2.1 21 = .ok (.getfield 15, 3) := by decide +kernel
theorem dX3_add_24 : decode mX3_add.2.1 24 = .ok (.iconst 1, 1) := by decide +kernel
theorem dX3_add_25 : decode mX3_add.2.1 25 = .ok (.iadd, 1) := by decide +kernel
theorem dX3_add_26 : decode mX3_add.2.1 26 = .ok (.putfield 15, 3) := by decide +kernel
theorem dX3_add_29 : decode mX3_add.2.1 29 = .ok (.return_, 1) := by decide +kernel
theorem dX3_lookFromBegin_0 : decode mX3_lookFromBegin.2.1 0 = .ok (.aload_n 0, 1) := by decide +kernel
theorem dX3_lookFromBegin_1 : decode mX3_lookFromBegin.2.1 1 = .ok (.iconst 0, 1) := by decide +kernel
theorem dX3_lookFromBegin_2 : decode mX3_lookFromBegin.2.1 2 = .ok (.putfield 22, 3) := by decide +kernel
theorem dX3_lookFromBegin_5 : decode mX3_lookFromBegin.2.1 5 = .ok (.aload_n 0, 1) := by decide +kernel
theorem dX3_lookFromBegin_6 : decode mX3_lookFromBegin.2.1 6 = .ok (.invokevirtual 31, 3) := by decide +kernel
theorem dX3_lookFromBegin_9 : decode mX3_lookFromBegin.2.1 9 = .ok (.return_, 1) := by decide +kernel
theorem dX3_advance_0 : decode mX3_advance.2.1 0 = .ok (.aload_n 0, 1) := by decide +kernel
theorem dX3_advance_1 : decode mX3_advance.2.1 1 = .ok (.aload_n 0, 1) := by decide +kernel
theorem dX3_advance_2 : decode mX3_advance.2.1 2 = .ok (.getfield 22, 3) := by decide +kernel
theorem dX3_advance_5 : decode mX3_advance.2.1 5 = .ok (.putfield 19, 3) := by decide +kernel
theorem dX3_advance_8 : decode mX3_advance.2.1 8 = .ok (.aload_n 0, 1) := by decide +kernel
theorem dX3_advance_9 : decode mX3_advance.2.1 9 = .ok (.getfield 19, 3) := by decide +kernel
theorem dX3_advance_12 : decode mX3_advance.2.1 12 = .ok (.aload_n 0, 1) := by decide +kernel
theorem dX3_advance_13 : decode mX3_advance.2.1 13 = .ok (.getfield 15, 3) := by decide +kernel
theorem dX3_advance_16 : decode mX3_advance.2.1 16 = .ok (.if_icmp .ge 30, 3) := by decide +kernel
theorem dX3_advance_19 : decode mX3_advance.2.1 19 = .ok (.aload_n 0, 1) := by decide +kernel
theorem dX3_advance_20 : decode mX3_advance.2.1 20 = .ok (.getfield 9, 3) := by decide +kernel
theorem dX3_advance_23 : decode mX3_advance.2.1 23 = .ok (.aload_n 0, 1) := by decide +kernel
theorem dX3_advance_24 : decode mX3_advance.2.1 24 = .ok (.getfield 19, 3) := by decide +kernel
theorem dX3_advance_27 : decode mX3_advance.2.1 27 = .ok (.baload, 1) := by decide +kernel
theorem dX3_advance_28 : decode mX3_advance.2.1 28 = .ok (.bipush 32, 2) := by decide +kernel
theorem dX3_advance_30 : decode mX3_advance.2.1 30 = .ok (.if_icmp .ne 16, 3) := by decide +kernel
theorem dX3_advance_33 : decode mX3_advance.2.1 33 = .ok (.aload_n 0, 1) := by decide +kernel
theorem dX3_advance_34 : decode mX3_advance.2.1 34 = .ok (.dup, 1) := by decide +kernel
theorem dX3_advance_35 : decode mX3_advance.2.1 35 = .ok (.getfield 19, 3) := by decide +kernel
theorem dX3_advance_38 : decode mX3_advance.2.1 38 = .ok (.iconst 1, 1) := by decide +kernel
theorem dX3_advance_39 : decode mX3_advance.2.1 39 = .ok (.iadd, 1) := by decide +kernel
theorem dX3_advance_40 : decode mX3_advance.2.1 40 = .ok (.putfield 19, 3) := by decide +kernel
theorem dX3_advance_43 : decode mX3_advance.2.1 43 = .ok (.goto (-35), 3) := by decide +kernel
theorem dX3_advance_46 : decode mX3_advance.2.1 46 = .ok (.aload_n 0, 1) := by decide +kernel
theorem dX3_advance_47 : decode mX3_advance.2.1 47 = .ok (.aload_n 0, 1) := by decide +kernel
theorem dX3_advance_48 : decode mX3_advance.2.1 48 = .ok (.getfield 19, 3) := by decide +kernel
theorem dX3_advance_51 : decode mX3_advance.2.1 51 = .ok (.putfield 22, 3) := by decide +kernel
theorem dX3_advance_54 : decode mX3_advance.2.1 54 = .ok (.aload_n 0, 1) := by decide +kernel
theorem dX3_advance_55 : decode mX3_advance.2.1 55 = .ok (.iconst 0, 1) := by decide +kernel
theorem dX3_advance_56 : decode mX3_advance.2.1 56 = .ok (.putfield 28, 3) := by decide +kernel
theorem dX3_advance_59 : decode mX3_advance.2.1 59 = .ok (.aload_n 0, 1) := by decide +kernel
theorem dX3_advance_60 : decode mX3_advance.2.1 60 = .ok (.getfield 19, 3) := by decide +kernel
theorem dX3_advance_63 : decode mX3_advance.2.1 63 = .ok (.aload_n 0, 1) := by decide +kernel
theorem dX3_advance_64 : decode mX3_advance.2.1 64 = .ok (.getfield 15, 3) := by decide +kernel
theorem dX3_advance_67 : decode mX3_advance.2.1 67 = .ok (.if_icmp .lt 11, 3) := by decide +kernel
theorem dX3_advance_70 : decode mX3_advance.2.1 70 = .ok (.aload_n 0, 1) := by decide +kernel
theorem dX3_advance_71 : decode mX3_advance.2.1 71 = .ok (.iconst 5, 1) := by decide +kernel
theorem dX3_advance_72 : decode mX3_advance.2.1 72 = .ok (.putfield 25, 3) := by decide +kernel
theorem dX3_advance_75 : decode mX3_advance.2.1 75 = .ok (.goto 177, 3) := by decide +kernel
theorem dX3_advance_78 : decode mX3_advance.2.1 78 = .ok (.aload_n 0, 1) := by decide +kernel
theorem dX3_advance_79 : decode mX3_advance.2.1 79 = .ok (.getfield 9, 3) := by decide +kernel
theorem dX3_advance_82 : decode mX3_advance.2.1 82 = .ok (.aload_n 0, 1) := by decide +kernel
theorem dX3_advance_83 : decode mX3_advance.2.1 83 = .ok (.getfield 19, 3) := by decide +kernel
theorem dX3_advance_86 : decode mX3_advance.2.1 86 = .ok (.baload, 1) := by decide +kernel
theorem dX3_advance_87 : decode mX3_advance.2.1 87 = .ok (.invokestatic 34, 3) := by decide +kernel
theorem dX3_advance_90 : decode mX3_advance.2.1 90 = .ok (.ifCond .eq 47, 3) := by decide +kernel
theorem dX3_advance_93 : decode mX3_advance.2.1 93 = .ok (.aload_n 0, 1) := by decide +kernel
theorem dX3_advance_94 : decode mX3_advance.2.1 94 = .ok (.iconst 0, 1) := by decide +kernel
theorem dX3_advance_95 : decode mX3_advance.2.1 95 = .ok (.putfield 25, 3) := by decide +kernel
theorem dX3_advance_98 : decode mX3_advance.2.1 98 = .ok (.aload_n 0, 1) := by decide +kernel
theorem dX3_advance_99 : decode mX3_advance.2.1 99 = .ok (.getfield 22, 3) := by decide +kernel
theorem dX3_advance_102 : decode mX3_advance.2.1 102 = .ok (.aload_n 0, 1) := by decide +kernel
theorem dX3_advance_103 : decode mX3_advance.2.1 103 = .ok (.getfield 15, 3) := by decide +kernel
theorem dX3_advance_106 : decode mX3_advance.2.1 106 = .ok (.if_icmp .ge 146, 3) := by decide +kernel
theorem dX3_advance_109 : decode mX3_advance.2.1 109 = .ok (.aload_n 0, 1) := by decide +kernel
theorem dX3_advance_110 : decode mX3_advance.2.1 110 = .ok (.getfield 9, 3) := by decide +kernel
theorem dX3_advance_113 : decode mX3_advance.2.1 113 = .ok (.aload_n 0, 1) := by decide +kernel
theorem dX3_advance_114 : decode mX3_advance.2.1 114 = .ok (.getfield 22, 3) := by decide +kernel
theorem dX3_advance_117 : decode mX3_advance.2.1 117 = .ok (.baload, 1) := by decide +kernel
theorem dX3_advance_118 : decode mX3_advance.2.1 118 = .ok (.invokestatic 34, 3) := by decide +kernel
theorem dX3_advance_121 : decode mX3_advance.2.1 121 = .ok (.ifCond .eq 131, 3) := by decide +kernel
theorem dX3_advance_124 : decode mX3_advance.2.1 124 = .ok (.aload_n 0, 1) := by decide +kernel
theorem dX3_advance_125 : decode mX3_advance.2.1 125 = .ok (.dup, 1) := by decide +kernel
theorem dX3_advance_126 : decode mX3_advance.2.1 126 = .ok (.getfield 22, 3) := by decide +kernel
theorem dX3_advance_129 : decode mX3_advance.2.1 129 = .ok (.iconst 1, 1) := by decide +kernel
theorem dX3_advance_130 : decode mX3_advance.2.1 130 = .ok (.iadd, 1) := by decide +kernel
theorem dX3_advance_131 : decode mX3_advance.2.1 131 = .ok (.putfield 22, 3) := by decide +kernel
theorem dX3_advance_134 : decode mX3_advance.2.1 134 = .ok (.goto (-36), 3) := by decide +kernel
theorem dX3_advance_137 : decode mX3_advance.2.1 137 = .ok (.aload_n 0, 1) := by decide +kernel
theorem dX3_advance_138 : decode mX3_advance.2.1 138 = .ok (.getfield 9, 3) := by decide +kernel
theorem dX3_advance_141 : decode mX3_advance.2.1 141 = .ok (.aload_n 0, 1) := by decide +kernel
theorem dX3_advance_142 : decode mX3_advance.2.1 142 = .ok (.getfield 19, 3) := by decide +kernel
theorem dX3_advance_145 : decode mX3_advance.2.1 145 = .ok (.baload, 1) := by decide +kernel
theorem dX3_advance_146 : decode mX3_advance.2.1 146 = .ok (.invokestatic 38, 3) := by decide +kernel
theorem dX3_advance_149 : decode mX3_advance.2.1 149 = .ok (.ifCond .eq 77, 3) := by decide +kernel
theorem dX3_advance_152 : decode mX3_advance.2.1 152 = .ok (.aload_n 0, 1) := by decide +kernel
theorem dX3_advance_153 : decode mX3_advance.2.1 153 = .ok (.iconst 1, 1) := by decide +kernel
theorem dX3_advance_154 : decode mX3_advance.2.1 154 = .ok (.putfield 25, 3) := by decide +kernel
theorem dX3_advance_157 : decode mX3_advance.2.1 157 = .ok (.aload_n 0, 1) := by decide +kernel
theorem dX3_advance_158 : decode mX3_advance.2.1 158 = .ok (.getfield 22, 3) := by decide +kernel
theorem dX3_advance_161 : decode mX3_advance.2.1 161 = .ok (.aload_n 0, 1) := by decide +kernel
theorem dX3_advance_162 : decode mX3_advance.2.1 162 = .ok (.getfield 15, 3) := by decide +kernel
theorem dX3_advance_165 : decode mX3_advance.2.1 165 = .ok (.if_icmp .ge 87, 3) := by decide +kernel
theorem dX3_advance_168 : decode mX3_advance.2.1 168 = .ok (.aload_n 0, 1) := by decide +kernel
theorem dX3_advance_169 : decode mX3_advance.2.1 169 = .ok (.getfield 9, 3) := by decide +kernel
theorem dX3_advance_172 : decode mX3_advance.2.1 172 = .ok (.aload_n 0, 1) := by decide +kernel
theorem dX3_advance_173 : decode mX3_advance.2.1 173 = .ok (.getfield 22, 3) := by decide +kernel
theorem dX3_advance_176 : decode mX3_advance.2.1 176 = .ok (.baload, 1) := by decide +kernel
theorem dX3_advance_177 : decode mX3_advance.2.1 177 = .ok (.invokestatic 38, 3) := by decide +kernel
theorem dX3_advance_180 : decode mX3_advance.2.1 180 = .ok (.ifCond .eq 72, 3) := by decide +kernel
theorem dX3_advance_183 : decode mX3_advance.2.1 183 = .ok (.aload_n 0, 1) := by decide +kernel
theorem dX3_advance_184 : decode mX3_advance.2.1 184 = .ok (.sipush 1000, 3) := by decide +kernel
theorem dX3_advance_187 : decode mX3_advance.2.1 187 = .ok (.aload_n 0, 1) := by decide +kernel
theorem dX3_advance_188 : decode mX3_advance.2.1 188 = .ok (.getfield 28, 3) := by decide +kernel
theorem dX3_advance_191 : decode mX3_advance.2.1 191 = .ok (.bipush 10, 2) := by decide +kernel
theorem dX3_advance_193 : decode mX3_advance.2.1 193 = .ok (.imul, 1) := by decide +kernel
theorem dX3_advance_194 : decode mX3_advance.2.1 194 = .ok (.aload_n 0, 1) := by decide +kernel
theorem dX3_advance_195 : decode mX3_advance.2.1 195 = .ok (.getfield 9, 3) := by decide +kernel
theorem dX3_advance_198 : decode mX3_advance.2.1 198 = .ok (.aload_n 0, 1) := by decide +kernel
theorem dX3_advance_199 : decode mX3_advance.2.1 199 = .ok (.getfield 22, 3) := by decide +kernel
theorem dX3_advance_202 : decode mX3_advance.2.1 202 = .ok (.baload, 1) := by decide +kernel
theorem dX3_advance_203 : decode mX3_advance.2.1 203 = .ok (.iadd, 1) := by decide +kernel
theorem dX3_advance_204 : decode mX3_advance.2.1 204 = .ok (.bipush 48, 2) := by decide +kernel
theorem dX3_advance_206 : decode mX3_advance.2.1 206 = .ok (.isub, 1) := by decide +kernel
theorem dX3_advance_207 : decode mX3_advance.2.1 207 = .ok (.invokestatic 41, 3) := by decide +kernel
theorem dX3_advance_210 : decode mX3_advance.2.1 210 = .ok (.putfield 28, 3) := by decide +kernel
theorem dX3_advance_213 : decode mX3_advance.2.1 213 = .ok (.aload_n 0, 1) := by decide +kernel
theorem dX3_advance_214 : decode mX3_advance.2.1 214 = .ok (.dup, 1) := by decide +kernel
theorem dX3_advance_215 : decode mX3_advance.2.1 215 = .ok (.getfield 22, 3) := by decide +kernel
theorem dX3_advance_218 : decode mX3_advance.2.1 218 = .ok (.iconst 1, 1) := by decide +kernel
theorem dX3_advance_219 : decode mX3_advance.2.1 219 = .ok (.iadd, 1) := by decide +kernel
theorem dX3_advance_220 : decode mX3_advance.2.1 220 = .ok (.putfield 22, 3) := by decide +kernel
theorem dX3_advance_223 : decode mX3_advance.2.1 223 = .ok (.goto (-66), 3) := by decide +kernel
theorem dX3_advance_226 : decode mX3_advance.2.1 226 = .ok (.aload_n 0, 1) := by decide +kernel
theorem dX3_advance_227 : decode mX3_advance.2.1 227 = .ok (.aload_n 0, 1) := by decide +kernel
theorem dX3_advance_228 : decode mX3_advance.2.1 228 = .ok (.getfield 9, 3) := by decide +kernel
theorem dX3_advance_231 : decode mX3_advance.2.1 231 = .ok (.aload_n 0, 1) := by decide +kernel
theorem dX3_advance_232 : decode mX3_advance.2.1 232 = .ok (.getfield 19, 3) := by decide +kernel
theorem dX3_advance_235 : decode mX3_advance.2.1 235 = .ok (.baload, 1) := by decide +kernel
theorem dX3_advance_236 : decode mX3_advance.2.1 236 = .ok (.invokestatic 47, 3) := by decide +kernel
theorem dX3_advance_239 : decode mX3_advance.2.1 239 = .ok (.putfield 25, 3) := by decide +kernel
theorem dX3_advance_242 : decode mX3_advance.2.1 242 = .ok (.aload_n 0, 1) := by decide +kernel
theorem dX3_advance_243 : decode mX3_advance.2.1 243 = .ok (.dup, 1) := by decide +kernel
theorem dX3_advance_244 : decode mX3_advance.2.1 244 = .ok (.getfield 22, 3) := by decide +kernel
theorem dX3_advance_247 : decode mX3_advance.2.1 247 = .ok (.iconst 1, 1) := by decide +kernel
theorem dX3_advance_248 : decode mX3_advance.2.1 248 = .ok (.iadd, 1) := by decide +kernel
theorem dX3_advance_249 : decode mX3_advance.2.1 249 = .ok (.putfield 22, 3) := by decide +kernel
theorem dX3_advance_252 : decode mX3_advance.2.1 252 = .ok (.return_, 1) := by decide +kernel
theorem dX3_sortOfSign_0 : decode mX3_sortOfSign.2.1 0 = .ok (.iload_n 0, 1) := by decide +kernel
theorem dX3_sortOfSign_1 : decode mX3_sortOfSign.2.1 1 = .ok (.bipush 59, 2) := by decide +kernel
theorem dX3_sortOfSign_3 : decode mX3_sortOfSign.2.1 3 = .ok (.if_icmp .ne 5, 3) := by decide +kernel
theorem dX3_sortOfSign_6 : decode mX3_sortOfSign.2.1 6 = .ok (.iconst 2, 1) := by decide +kernel
theorem dX3_sortOfSign_7 : decode mX3_sortOfSign.2.1 7 = .ok (.ireturn, 1) := by decide +kernel
theorem dX3_sortOfSign_8 : decode mX3_sortOfSign.2.1 8 = .ok (.iload_n 0, 1) := by decide +kernel
theorem dX3_sortOfSign_9 : decode mX3_sortOfSign.2.1 9 = .ok (.bipush 45, 2) := by decide +kernel
theorem dX3_sortOfSign_11 : decode mX3_sortOfSign.2.1 11 = .ok (.if_icmp .ne 7, 3) := by decide +kernel
theorem dX3_sortOfSign_14 : decode mX3_sortOfSign.2.1 14 = .ok (.iconst 3, 1) := by decide +kernel
theorem dX3_sortOfSign_15 : decode mX3_sortOfSign.2.1 15 = .ok (.goto 4, 3) := by decide +kernel
theorem dX3_sortOfSign_18 : decode mX3_sortOfSign.2.1 18 = .ok (.iconst 4, 1) := by decide +kernel
theorem dX3_sortOfSign_19 : decode mX3_sortOfSign.2.1 19 = .ok (.ireturn, 1) := by decide +kernel
theorem dX3_isLetter_0 : decode mX3_isLetter.2.1 0 = .ok (.iload_n 0, 1) := by decide +kernel
theorem dX3_isLetter_1 : decode mX3_isLetter.2.1 1 = .ok (.bipush 97, 2) := by decide +kernel
theorem dX3_isLetter_3 : decode mX3_isLetter.2.1 3 = .ok (.if_icmp .lt 13, 3) := by decide +kernel
theorem dX3_isLetter_6 : decode mX3_isLetter.2.1 6 = .ok (.iload_n 0, 1) := by decide +kernel
theorem dX3_isLetter_7 : decode mX3_isLetter.2.1 7 = .ok (.bipush 122, 2) := by decide +kernel
theorem dX3_isLetter_9 : decode mX3_isLetter.2.1 9 = .ok (.if_icmp .gt 7, 3) := by decide +kernel
theorem dX3_isLetter_12 : decode mX3_isLetter.2.1 12 = .ok (.iconst 1, 1) := by decide +kernel
theorem dX3_isLetter_13 : decode mX3_isLetter.2.1 13 = .ok (.goto 4, 3) := by decide +kernel
theorem dX3_isLetter_16 : decode mX3_isLetter.2.1 16 = .ok (.iconst 0, 1) := by decide +kernel
theorem dX3_isLetter_17 : decode mX3_isLetter.2.1 17 = .ok (.ireturn, 1) := by decide +kernel
theorem dX3_isDigit_0 : decode mX3_isDigit.2.1 0 = .ok (.iload_n 0, 1) := by decide +kernel
theorem dX3_isDigit_1 : decode mX3_isDigit.2.1 1 = .ok (.bipush 48, 2) := by decide +kernel
theorem dX3_isDigit_3 : decode mX3_isDigit.2.1 3 = .ok (.if_icmp .lt 13, 3) := by decide +kernel
theorem dX3_isDigit_6 : decode mX3_isDigit.2.1 6 = .ok (.iload_n 0, 1) := by decide +kernel
theorem dX3_isDigit_7 : decode mX3_isDigit.2.1 7 = .ok (.bipush 57, 2) := by decide +kernel
theorem dX3_isDigit_9 : decode mX3_isDigit.2.1 9 = .ok (.if_icmp .gt 7, 3) := by decide +kernel
theorem dX3_isDigit_12 : decode mX3_isDigit.2.1 12 = .ok (.iconst 1, 1) := by decide +kernel
theorem dX3_isDigit_13 : decode mX3_isDigit.2.1 13 = .ok (.goto 4, 3) := by decide +kernel
theorem dX3_isDigit_16 : decode mX3_isDigit.2.1 16 = .ok (.iconst 0, 1) := by decide +kernel
theorem dX3_isDigit_17 : decode mX3_isDigit.2.1 17 = .ok (.ireturn, 1) := by decide +kernel
theorem dX3_isNumber_0 : decode mX3_isNumber.2.1 0 = .ok (.aload_n 0, 1) := by decide +kernel
theorem dX3_isNumber_1 : decode mX3_isNumber.2.1 1 = .ok (.getfield 25, 3) := by decide +kernel
theorem dX3_isNumber_4 : decode mX3_isNumber.2.1 4 = .ok (.iconst 1, 1) := by decide +kernel
theorem dX3_isNumber_5 : decode mX3_isNumber.2.1 5 = .ok (.if_icmp .ne 19, 3) := by decide +kernel
theorem dX3_isNumber_8 : decode mX3_isNumber.2.1 8 = .ok (.aload_n 0, 1) := by decide +kernel
theorem dX3_isNumber_9 : decode mX3_isNumber.2.1 9 = .ok (.getfield 28, 3) := by decide +kernel
theorem dX3_isNumber_12 : decode mX3_isNumber.2.1 12 = .ok (.iload_n 1, 1) := by decide +kernel
theorem dX3_isNumber_13 : decode mX3_isNumber.2.1 13 = .ok (.iload_n 2, 1) := by decide +kernel
theorem dX3_isNumber_14 : decode mX3_isNumber.2.1 14 = .ok (.invokestatic 51, 3) := by decide +kernel
theorem dX3_isNumber_17 : decode mX3_isNumber.2.1 17 = .ok (.ifCond .eq 7, 3) := by decide +kernel
theorem dX3_isNumber_20 : decode mX3_isNumber.2.1 20 = .ok (.iconst 1, 1) := by decide +kernel
theorem dX3_isNumber_21 : decode mX3_isNumber.2.1 21 = .ok (.goto 4, 3) := by decide +kernel
theorem dX3_isNumber_24 : decode mX3_isNumber.2.1 24 = .ok (.iconst 0, 1) := by decide +kernel
theorem dX3_isNumber_25 : decode mX3_isNumber.2.1 25 = .ok (.ireturn, 1) := by decide +kernel
theorem dX3_isWord_0 : decode mX3_isWord.2.1 0 = .ok (.aload_n 0, 1) := by decide +kernel
theorem dX3_isWord_1 : decode mX3_isWord.2.1 1 = .ok (.getfield 25, 3) := by decide +kernel
theorem dX3_isWord_4 : decode mX3_isWord.2.1 4 = .ok (.ifCond .ne 19, 3) := by decide +kernel
theorem dX3_isWord_7 : decode mX3_isWord.2.1 7 = .ok (.aload_n 0, 1) := by decide +kernel
theorem dX3_isWord_8 : decode mX3_isWord.2.1 8 = .ok (.getfield 22, 3) := by decide +kernel
theorem dX3_isWord_11 : decode mX3_isWord.2.1 11 = .ok (.aload_n 0, 1) := by decide +kernel
theorem dX3_isWord_12 : decode mX3_isWord.2.1 12 = .ok (.getfield 19, 3) := by decide +kernel
theorem dX3_isWord_15 : decode mX3_isWord.2.1 15 = .ok (.isub, 1) := by decide +kernel
theorem dX3_isWord_16 : decode mX3_isWord.2.1 16 = .ok (.aload_n 1, 1) := by decide +kernel
theorem dX3_isWord_17 : decode mX3_isWord.2.1 17 = .ok (.invokevirtual 55, 3) := by decide +kernel
theorem dX3_isWord_20 : decode mX3_isWord.2.1 20 = .ok (.if_icmp .eq 5, 3) := by decide +kernel
theorem dX3_isWord_23 : decode mX3_isWord.2.1 23 = .ok (.iconst 0, 1) := by decide +kernel
theorem dX3_isWord_24 : decode mX3_isWord.2.1 24 = .ok (.ireturn, 1) := by decide +kernel
theorem dX3_isWord_25 : decode mX3_isWord.2.1 25 = .ok (.iconst 0, 1) := by decide +kernel
theorem dX3_isWord_26 : decode mX3_isWord.2.1 26 = .ok (.istore_n 2, 1) := by decide +kernel
theorem dX3_isWord_27 : decode mX3_isWord.2.1 27 = .ok (.iload_n 2, 1) := by decide +kernel
theorem dX3_isWord_28 : decode mX3_isWord.2.1 28 = .ok (.aload_n 1, 1) := by decide +kernel
theorem dX3_isWord_29 : decode mX3_isWord.2.1 29 = .ok (.invokevirtual 55, 3) := by decide +kernel
theorem dX3_isWord_32 : decode mX3_isWord.2.1 32 = .ok (.if_icmp .ge 30, 3) := by decide +kernel
theorem dX3_isWord_35 : decode mX3_isWord.2.1 35 = .ok (.aload_n 0, 1) := by decide +kernel
theorem dX3_isWord_36 : decode mX3_isWord.2.1 36 = .ok (.getfield 9, 3) := by decide +kernel
theorem dX3_isWord_39 : decode mX3_isWord.2.1 39 = .ok (.aload_n 0, 1) := by decide +kernel
theorem dX3_isWord_40 : decode mX3_isWord.2.1 40 = .ok (.getfield 19, 3) := by decide +kernel
theorem dX3_isWord_43 : decode mX3_isWord.2.1 43 = .ok (.iload_n 2, 1) := by decide +kernel
theorem dX3_isWord_44 : decode mX3_isWord.2.1 44 = .ok (.iadd, 1) := by decide +kernel
theorem dX3_isWord_45 : decode mX3_isWord.2.1 45 = .ok (.baload, 1) := by decide +kernel
theorem dX3_isWord_46 : decode mX3_isWord.2.1 46 = .ok (.aload_n 1, 1) := by decide +kernel
theorem dX3_isWord_47 : decode mX3_isWord.2.1 47 = .ok (.iload_n 2, 1) := by decide +kernel
theorem dX3_isWord_48 : decode mX3_isWord.2.1 48 = .ok (.invokevirtual 61, 3) := by decide +kernel
theorem dX3_isWord_51 : decode mX3_isWord.2.1 51 = .ok (.if_icmp .eq 5, 3) := by decide +kernel
theorem dX3_isWord_54 : decode mX3_isWord.2.1 54 = .ok (.iconst 0, 1) := by decide +kernel
theorem dX3_isWord_55 : decode mX3_isWord.2.1 55 = .ok (.ireturn, 1) := by decide +kernel
theorem dX3_isWord_56 : decode mX3_isWord.2.1 56 = .ok (.iinc 2 1, 3) := by decide +kernel
theorem dX3_isWord_59 : decode mX3_isWord.2.1 59 = .ok (.goto (-32), 3) := by decide +kernel
theorem dX3_isWord_62 : decode mX3_isWord.2.1 62 = .ok (.iconst 1, 1) := by decide +kernel
theorem dX3_isWord_63 : decode mX3_isWord.2.1 63 = .ok (.ireturn, 1) := by decide +kernel
theorem dX4_readItems_0 : decode mX4_readItems.2.1 0 = .ok (.aload_n 0, 1) := by decide +kernel
theorem dX4_readItems_1 : decode mX4_readItems.2.1 1 = .ok (.getfield 9, 3) := by decide +kernel
theorem dX4_readItems_4 : decode mX4_readItems.2.1 4 = .ok (.invokevirtual 19, 3) := by decide +kernel
theorem dX4_readItems_7 : decode mX4_readItems.2.1 7 = .ok (.iconst 1, 1) := by decide +kernel
theorem dX4_readItems_8 : decode mX4_readItems.2.1 8 = .ok (.istore_n 1, 1) := by decide +kernel
theorem dX4_readItems_9 : decode mX4_readItems.2.1 9 = .ok (.iload_n 1, 1) := by decide +kernel
theorem dX4_readItems_10 : decode mX4_readItems.2.1 10 = .ok (.bipush 120, 2) := by decide +kernel
theorem dX4_readItems_12 : decode mX4_readItems.2.1 12 = .ok (.if_icmp .gt 53, 3) := by decide +kernel
theorem dX4_readItems_15 : decode mX4_readItems.2.1 15 = .ok (.aload_n 0, 1) := by decide +kernel
theorem dX4_readItems_16 : decode mX4_readItems.2.1 16 = .ok (.invokevirtual 24, 3) := by decide +kernel
theorem dX4_readItems_19 : decode mX4_readItems.2.1 19 = .ok (.ifCond .ne 6, 3) := by decide +kernel
theorem dX4_readItems_22 : decode mX4_readItems.2.1 22 = .ok (.goto 43, 3) := by decide +kernel
theorem dX4_readItems_25 : decode mX4_readItems.2.1 25 = .ok (.aload_n 0, 1) := by decide +kernel
theorem dX4_readItems_26 : decode mX4_readItems.2.1 26 = .ok (.getfield 9, 3) := by decide +kernel
theorem dX4_readItems_29 : decode mX4_readItems.2.1 29 = .ok (.getfield 28, 3) := by decide +kernel
theorem dX4_readItems_32 : decode mX4_readItems.2.1 32 = .ok (.iconst 5, 1) := by decide +kernel
theorem dX4_readItems_33 : decode mX4_readItems.2.1 33 = .ok (.if_icmp .ne 5, 3) := by decide +kernel
theorem dX4_readItems_36 : decode mX4_readItems.2.1 36 = .ok (.iload_n 1, 1) := by decide +kernel
theorem dX4_readItems_37 : decode mX4_readItems.2.1 37 = .ok (.ireturn, 1) := by decide +kernel
theorem dX4_readItems_38 : decode mX4_readItems.2.1 38 = .ok (.aload_n 0, 1) := by decide +kernel
theorem dX4_readItems_39 : decode mX4_readItems.2.1 39 = .ok (.getfield 9, 3) := by decide +kernel
theorem dX4_readItems_42 : decode mX4_readItems.2.1 42 = .ok (.getfield 28, 3) := by decide +kernel
theorem dX4_readItems_45 : decode mX4_readItems.2.1 45 = .ok (.iconst 2, 1) := by decide +kernel
theorem dX4_readItems_46 : decode mX4_readItems.2.1 46 = .ok (.if_icmp .eq 6, 3) := by decide +kernel
theorem dX4_readItems_49 : decode mX4_readItems.2.1 49 = .ok (.goto 16, 3) := by decide +kernel
theorem dX4_readItems_52 : decode mX4_readItems.2.1 52 = .ok (.aload_n 0, 1) := by decide +kernel
theorem dX4_readItems_53 : decode mX4_readItems.2.1 53 = .ok (.getfield 9, 3) := by decide +kernel
theorem dX4_readItems_56 : decode mX4_readItems.2.1 56 = .ok (.invokevirtual 32, 3) := by decide +kernel
theorem dX4_readItems_59 : decode mX4_readItems.2.1 59 = .ok (.iinc 1 1, 3) := by decide +kernel
theorem dX4_readItems_62 : decode mX4_readItems.2.1 62 = .ok (.goto (-53), 3) := by decide +kernel
theorem dX4_readItems_65 : decode mX4_readItems.2.1 65 = .ok (.iconst (-1), 1) := by decide +kernel
theorem dX4_readItems_66 : decode mX4_readItems.2.1 66 = .ok (.aload_n 0, 1) := by decide +kernel
theorem dX4_readItems_67 : decode mX4_readItems.2.1 67 = .ok (.getfield 9, 3) := by decide +kernel
theorem dX4_readItems_70 : decode mX4_readItems.2.1 70 = .ok (.getfield 35, 3) := by decide +kernel
theorem dX4_readItems_73 : decode mX4_readItems.2.1 73 = .ok (.isub, 1) := by decide +kernel
theorem dX4_readItems_74 : decode mX4_readItems.2.1 74 = .ok (.ireturn, 1) := by decide +kernel
theorem dX4_readsItem_0 : decode mX4_readsItem.2.1 0 = .ok (.iconst 0, 1) := by decide +kernel
theorem dX4_readsItem_1 : decode mX4_readsItem.2.1 1 = .ok (.istore_n 1, 1) := by decide +kernel
theorem dX4_readsItem_2 : decode mX4_readsItem.2.1 2 = .ok (.iload_n 1, 1) := by decide +kernel
theorem dX4_readsItem_3 : decode mX4_readsItem.2.1 3 = .ok (.bipush 7, 2) := by decide +kernel
theorem dX4_readsItem_5 : decode mX4_readsItem.2.1 5 = .ok (.if_icmp .ge 47, 3) := by decide +kernel
theorem dX4_readsItem_8 : decode mX4_readsItem.2.1 8 = .ok (.aload_n 0, 1) := by decide +kernel
theorem dX4_readsItem_9 : decode mX4_readsItem.2.1 9 = .ok (.getfield 9, 3) := by decide +kernel
theorem dX4_readsItem_12 : decode mX4_readsItem.2.1 12 = .ok (.iload_n 1, 1) := by decide +kernel
theorem dX4_readsItem_13 : decode mX4_readsItem.2.1 13 = .ok (.invokestatic 38, 3) := by decide +kernel
theorem dX4_readsItem_16 : decode mX4_readsItem.2.1 16 = .ok (.invokevirtual 42, 3) := by decide +kernel
theorem dX4_readsItem_19 : decode mX4_readsItem.2.1 19 = .ok (.ifCond .eq 27, 3) := by decide +kernel
theorem dX4_readsItem_22 : decode mX4_readsItem.2.1 22 = .ok (.aload_n 0, 1) := by decide +kernel
theorem dX4_readsItem_23 : decode mX4_readsItem.2.1 23 = .ok (.getfield 15, 3) := by decide +kernel
theorem dX4_readsItem_26 : decode mX4_readsItem.2.1 26 = .ok (.invokevirtual 46, 3) := by decide +kernel
theorem dX4_readsItem_29 : decode mX4_readsItem.2.1 29 = .ok (.ifCond .ne 15, 3) := by decide +kernel
theorem dX4_readsItem_32 : decode mX4_readsItem.2.1 32 = .ok (.aload_n 0, 1) := by decide +kernel
theorem dX4_readsItem_33 : decode mX4_readsItem.2.1 33 = .ok (.iload_n 1, 1) := by decide +kernel
theorem dX4_readsItem_34 : decode mX4_readsItem.2.1 34 = .ok (.invokevirtual 51, 3) := by decide +kernel
theorem dX4_readsItem_37 : decode mX4_readsItem.2.1 37 = .ok (.ifCond .eq 7, 3) := by decide +kernel
theorem dX4_readsItem_40 : decode mX4_readsItem.2.1 40 = .ok (.iconst 1, 1) := by decide +kernel
theorem dX4_readsItem_41 : decode mX4_readsItem.2.1 41 = .ok (.goto 4, 3) := by decide +kernel
theorem dX4_readsItem_44 : decode mX4_readsItem.2.1 44 = .ok (.iconst 0, 1) := by decide +kernel
theorem dX4_readsItem_45 : decode mX4_readsItem.2.1 45 = .ok (.ireturn, 1) := by decide +kernel
theorem dX4_readsItem_46 : decode mX4_readsItem.2.1 46 = .ok (.iinc 1 1, 3) := by decide +kernel
theorem dX4_readsItem_49 : decode mX4_readsItem.2.1 49 = .ok (.goto (-47), 3) := by decide +kernel
theorem dX4_readsItem_52 : decode mX4_readsItem.2.1 52 = .ok (.iconst 0, 1) := by decide +kernel
theorem dX4_readsItem_53 : decode mX4_readsItem.2.1 53 = .ok (.istore_n 1, 1) := by decide +kernel
theorem dX4_readsItem_54 : decode mX4_readsItem.2.1 54 = .ok (.iload_n 1, 1) := by decide +kernel
theorem dX4_readsItem_55 : decode mX4_readsItem.2.1 55 = .ok (.iconst 3, 1) := by decide +kernel
theorem dX4_readsItem_56 : decode mX4_readsItem.2.1 56 = .ok (.if_icmp .ge 29, 3) := by decide +kernel
theorem dX4_readsItem_59 : decode mX4_readsItem.2.1 59 = .ok (.aload_n 0, 1) := by decide +kernel
theorem dX4_readsItem_60 : decode mX4_readsItem.2.1 60 = .ok (.getfield 9, 3) := by decide +kernel
theorem dX4_readsItem_63 : decode mX4_readsItem.2.1 63 = .ok (.iload_n 1, 1) := by decide +kernel
theorem dX4_readsItem_64 : decode mX4_readsItem.2.1 64 = .ok (.invokestatic 55, 3) := by decide +kernel
theorem dX4_readsItem_67 : decode mX4_readsItem.2.1 67 = .ok (.invokevirtual 42, 3) := by decide +kernel
theorem dX4_readsItem_70 : decode mX4_readsItem.2.1 70 = .ok (.ifCond .eq 9, 3) := by decide +kernel
theorem dX4_readsItem_73 : decode mX4_readsItem.2.1 73 = .ok (.aload_n 0, 1) := by decide +kernel
theorem dX4_readsItem_74 : decode mX4_readsItem.2.1 74 = .ok (.iload_n 1, 1) := by decide +kernel
theorem dX4_readsItem_75 : decode mX4_readsItem.2.1 75 = .ok (.invokevirtual 58, 3) := by decide +kernel
theorem dX4_readsItem_78 : decode mX4_readsItem.2.1 78 = .ok (.ireturn, 1) := by decide +kernel
theorem dX4_readsItem_79 : decode mX4_readsItem.2.1 79 = .ok (.iinc 1 1, 3) := by decide +kernel
theorem dX4_readsItem_82 : decode mX4_readsItem.2.1 82 = .ok (.goto (-28), 3) := by decide +kernel
theorem dX4_readsItem_85 : decode mX4_readsItem.2.1 85 = .ok (.iconst 0, 1) := by decide +kernel
theorem dX4_readsItem_86 : decode mX4_readsItem.2.1 86 = .ok (.ireturn, 1) := by decide +kernel
theorem dX4_readsWeather_0 : decode mX4_readsWeather.2.1 0 = .ok (.aload_n 0, 1) := by decide +kernel
theorem dX4_readsWeather_1 : decode mX4_readsWeather.2.1 1 = .ok (.getfield 9, 3) := by decide +kernel
theorem dX4_readsWeather_4 : decode mX4_readsWeather.2.1 4 = .ok (.invokevirtual 32, 3) := by decide +kernel
theorem dX4_readsWeather_7 : decode mX4_readsWeather.2.1 7 = .ok (.aload_n 0, 1) := by decide +kernel
theorem dX4_readsWeather_8 : decode mX4_readsWeather.2.1 8 = .ok (.getfield 9, 3) := by decide +kernel
theorem dX4_readsWeather_11 : decode mX4_readsWeather.2.1 11 = .ok (.iconst 0, 1) := by decide +kernel
theorem dX4_readsWeather_12 : decode mX4_readsWeather.2.1 12 = .ok (.bipush 99, 2) := by decide +kernel
theorem dX4_readsWeather_14 : decode mX4_readsWeather.2.1 14 = .ok (.invokevirtual 61, 3) := by decide +kernel
theorem dX4_readsWeather_17 : decode mX4_readsWeather.2.1 17 = .ok (.ifCond .ne 5, 3) := by decide +kernel
theorem dX4_readsWeather_20 : decode mX4_readsWeather.2.1 20 = .ok (.iconst 0, 1) := by decide +kernel
theorem dX4_readsWeather_21 : decode mX4_readsWeather.2.1 21 = .ok (.ireturn, 1) := by decide +kernel
theorem dX4_readsWeather_22 : decode mX4_readsWeather.2.1 22 = .ok (.aload_n 0, 1) := by decide +kernel
theorem dX4_readsWeather_23 : decode mX4_readsWeather.2.1 23 = .ok (.getfield 15, 3) := by decide +kernel
theorem dX4_readsWeather_26 : decode mX4_readsWeather.2.1 26 = .ok (.getfield 65, 3) := by decide +kernel
theorem dX4_readsWeather_29 : decode mX4_readsWeather.2.1 29 = .ok (.iload_n 1, 1) := by decide +kernel
theorem dX4_readsWeather_30 : decode mX4_readsWeather.2.1 30 = .ok (.aload_n 0, 1) := by decide +kernel
theorem dX4_readsWeather_31 : decode mX4_readsWeather.2.1 31 = .ok (.getfield 9, 3) := by decide +kernel
theorem dX4_readsWeather_34 : decode mX4_readsWeather.2.1 34 = .ok (.getfield 69, 3) := by decide +kernel
theorem dX4_readsWeather_37 : decode mX4_readsWeather.2.1 37 = .ok (.iastore, 1) := by decide +kernel
theorem dX4_readsWeather_38 : decode mX4_readsWeather.2.1 38 = .ok (.aload_n 0, 1) := by decide +kernel
theorem dX4_readsWeather_39 : decode mX4_readsWeather.2.1 39 = .ok (.getfield 9, 3) := by decide +kernel
theorem dX4_readsWeather_42 : decode mX4_readsWeather.2.1 42 = .ok (.invokevirtual 32, 3) := by decide +kernel
theorem dX4_readsWeather_45 : decode mX4_readsWeather.2.1 45 = .ok (.iconst 1, 1) := by decide +kernel
theorem dX4_readsWeather_46 : decode mX4_readsWeather.2.1 46 = .ok (.ireturn, 1) := by decide +kernel
theorem dX4_readsFarm_0 : decode mX4_readsFarm.2.1 0 = .ok (.aload_n 0, 1) := by decide +kernel
theorem dX4_readsFarm_1 : decode mX4_readsFarm.2.1 1 = .ok (.getfield 9, 3) := by decide +kernel
theorem dX4_readsFarm_4 : decode mX4_readsFarm.2.1 4 = .ok (.invokevirtual 32, 3) := by decide +kernel
theorem dX4_readsFarm_7 : decode mX4_readsFarm.2.1 7 = .ok (.aload_n 0, 1) := by decide +kernel
theorem dX4_readsFarm_8 : decode mX4_readsFarm.2.1 8 = .ok (.getfield 9, 3) := by decide +kernel
theorem dX4_readsFarm_11 : decode mX4_readsFarm.2.1 11 = .ok (.getstatic 72, 3) := by decide +kernel
theorem dX4_readsFarm_14 : decode mX4_readsFarm.2.1 14 = .ok (.iconst 1, 1) := by decide +kernel
theorem dX4_readsFarm_15 : decode mX4_readsFarm.2.1 15 = .ok (.iaload, 1) := by decide +kernel
theorem dX4_readsFarm_16 : decode mX4_readsFarm.2.1 16 = .ok (.getstatic 75, 3) := by decide +kernel
theorem dX4_readsFarm_19 : decode mX4_readsFarm.2.1 19 = .ok (.iconst 1, 1) := by decide +kernel
theorem dX4_readsFarm_20 : decode mX4_readsFarm.2.1 20 = .ok (.iaload, 1) := by decide +kernel
theorem dX4_readsFarm_21 : decode mX4_readsFarm.2.1 21 = .ok (.invokevirtual 61, 3) := by decide +kernel
theorem dX4_readsFarm_24 : decode mX4_readsFarm.2.1 24 = .ok (.ifCond .ne 5, 3) := by decide +kernel
theorem dX4_readsFarm_27 : decode mX4_readsFarm.2.1 27 = .ok (.iconst 0, 1) := by decide +kernel
theorem dX4_readsFarm_28 : decode mX4_readsFarm.2.1 28 = .ok (.ireturn, 1) := by decide +kernel
theorem dX4_readsFarm_29 : decode mX4_readsFarm.2.1 29 = .ok (.aload_n 0, 1) := by decide +kernel
theorem dX4_readsFarm_30 : decode mX4_readsFarm.2.1 30 = .ok (.getfield 15, 3) := by decide +kernel
theorem dX4_readsFarm_33 : decode mX4_readsFarm.2.1 33 = .ok (.getfield 78, 3) := by decide +kernel
theorem dX4_readsFarm_36 : decode mX4_readsFarm.2.1 36 = .ok (.aload_n 0, 1) := by decide +kernel
theorem dX4_readsFarm_37 : decode mX4_readsFarm.2.1 37 = .ok (.getfield 15, 3) := by decide +kernel
theorem dX4_readsFarm_40 : decode mX4_readsFarm.2.1 40 = .ok (.iload_n 1, 1) := by decide +kernel
theorem dX4_readsFarm_41 : decode mX4_readsFarm.2.1 41 = .ok (.aload_n 0, 1) := by decide +kernel
theorem dX4_readsFarm_42 : decode mX4_readsFarm.2.1 42 = .ok (.getfield 9, 3) := by decide +kernel
theorem dX4_readsFarm_45 : decode mX4_readsFarm.2.1 45 = .ok (.getfield 69, 3) := by decide +kernel
theorem dX4_readsFarm_48 : decode mX4_readsFarm.2.1 48 = .ok (.invokevirtual 82, 3) := by decide +kernel
theorem dX4_readsFarm_51 : decode mX4_readsFarm.2.1 51 = .ok (.aaload, 1) := by decide +kernel
theorem dX4_readsFarm_52 : decode mX4_readsFarm.2.1 52 = .ok (.astore_n 2, 1) := by decide +kernel
theorem dX4_readsFarm_53 : decode mX4_readsFarm.2.1 53 = .ok (.aload_n 0, 1) := by decide +kernel
theorem dX4_readsFarm_54 : decode mX4_readsFarm.2.1 54 = .ok (.getfield 9, 3) := by decide +kernel
theorem dX4_readsFarm_57 : decode mX4_readsFarm.2.1 57 = .ok (.invokevirtual 32, 3) := by decide +kernel
theorem dX4_readsFarm_60 : decode mX4_readsFarm.2.1 60 = .ok (.aload_n 0, 1) := by decide +kernel
theorem dX4_readsFarm_61 : decode mX4_readsFarm.2.1 61 = .ok (.aload_n 2, 1) := by decide +kernel
theorem dX4_readsFarm_62 : decode mX4_readsFarm.2.1 62 = .ok (.invokevirtual 86, 3) := by decide +kernel
theorem dX4_readsFarm_65 : decode mX4_readsFarm.2.1 65 = .ok (.ifCond .eq 15, 3) := by decide +kernel
theorem dX4_readsFarm_68 : decode mX4_readsFarm.2.1 68 = .ok (.aload_n 0, 1) := by decide +kernel
theorem dX4_readsFarm_69 : decode mX4_readsFarm.2.1 69 = .ok (.aload_n 2, 1) := by decide +kernel
theorem dX4_readsFarm_70 : decode mX4_readsFarm.2.1 70 = .ok (.invokevirtual 90, 3) := by decide +kernel
theorem dX4_readsFarm_73 : decode mX4_readsFarm.2.1 73 = .ok (.ifCond .eq 7, 3) := by decide +kernel
theorem dX4_readsFarm_76 : decode mX4_readsFarm.2.1 76 = .ok (.iconst 1, 1) := by decide +kernel
theorem dX4_readsFarm_77 : decode mX4_readsFarm.2.1 77 = .ok (.goto 4, 3) := by decide +kernel
theorem dX4_readsFarm_80 : decode mX4_readsFarm.2.1 80 = .ok (.iconst 0, 1) := by decide +kernel
theorem dX4_readsFarm_81 : decode mX4_readsFarm.2.1 81 = .ok (.ireturn, 1) := by decide +kernel
theorem dX4_readsHands_0 : decode mX4_readsHands.2.1 0 = .ok (.aload_n 0, 1) := by decide +kernel
theorem dX4_readsHands_1 : decode mX4_readsHands.2.1 1 = .ok (.getfield 9, 3) := by decide +kernel
theorem dX4_readsHands_4 : decode mX4_readsHands.2.1 4 = .ok (.ldc 93, 2) := by decide +kernel
theorem dX4_readsHands_6 : decode mX4_readsHands.2.1 6 = .ok (.invokevirtual 42, 3) := by decide +kernel
theorem dX4_readsHands_9 : decode mX4_readsHands.2.1 9 = .ok (.ifCond .ne 5, 3) := by decide +kernel
theorem dX4_readsHands_12 : decode mX4_readsHands.2.1 12 = .ok (.iconst 1, 1) := by decide +kernel
theorem dX4_readsHands_13 : decode mX4_readsHands.2.1 13 = .ok (.ireturn, 1) := by decide +kernel
theorem dX4_readsHands_14 : decode mX4_readsHands.2.1 14 = .ok (.aload_n 0, 1) := by decide +kernel
theorem dX4_readsHands_15 : decode mX4_readsHands.2.1 15 = .ok (.getfield 9, 3) := by decide +kernel
theorem dX4_readsHands_18 : decode mX4_readsHands.2.1 18 = .ok (.invokevirtual 32, 3) := by decide +kernel
theorem dX4_readsHands_21 : decode mX4_readsHands.2.1 21 = .ok (.aload_n 0, 1) := by decide +kernel
theorem dX4_readsHands_22 : decode mX4_readsHands.2.1 22 = .ok (.getfield 9, 3) := by decide +kernel
theorem dX4_readsHands_25 : decode mX4_readsHands.2.1 25 = .ok (.getstatic 72, 3) := by decide +kernel
theorem dX4_readsHands_28 : decode mX4_readsHands.2.1 28 = .ok (.iconst 2, 1) := by decide +kernel
theorem dX4_readsHands_29 : decode mX4_readsHands.2.1 29 = .ok (.iaload, 1) := by decide +kernel
theorem dX4_readsHands_30 : decode mX4_readsHands.2.1 30 = .ok (.getstatic 75, 3) := by decide +kernel
theorem dX4_readsHands_33 : decode mX4_readsHands.2.1 33 = .ok (.iconst 2, 1) := by decide +kernel
theorem dX4_readsHands_34 : decode mX4_readsHands.2.1 34 = .ok (.iaload, 1) := by decide +kernel
theorem dX4_readsHands_35 : decode mX4_readsHands.2.1 35 = .ok (.invokevirtual 61, 3) := by decide +kernel
theorem dX4_readsHands_38 : decode mX4_readsHands.2.1 38 = .ok (.ifCond .ne 5, 3) := by decide +kernel
theorem dX4_readsHands_41 : decode mX4_readsHands.2.1 41 = .ok (.iconst 0, 1) := by decide +kernel
theorem dX4_readsHands_42 : decode mX4_readsHands.2.1 42 = .ok (.ireturn, 1) := by decide +kernel
theorem dX4_readsHands_43 : decode mX4_readsHands.2.1 43 = .ok (.aload_n 1, 1) := by decide +kernel
theorem dX4_readsHands_44 : decode mX4_readsHands.2.1 44 = .ok (.iconst 2, 1) := by decide +kernel
theorem dX4_readsHands_45 : decode mX4_readsHands.2.1 45 = .ok (.aload_n 0, 1) := by decide +kernel
theorem dX4_readsHands_46 : decode mX4_readsHands.2.1 46 = .ok (.getfield 9, 3) := by decide +kernel
theorem dX4_readsHands_49 : decode mX4_readsHands.2.1 49 = .ok (.getfield 69, 3) := by decide +kernel
theorem dX4_readsHands_52 : decode mX4_readsHands.2.1 52 = .ok (.invokevirtual 95, 3) := by decide +kernel
theorem dX4_readsHands_55 : decode mX4_readsHands.2.1 55 = .ok (.aload_n 0, 1) := by decide +kernel
theorem dX4_readsHands_56 : decode mX4_readsHands.2.1 56 = .ok (.getfield 9, 3) := by decide +kernel
theorem dX4_readsHands_59 : decode mX4_readsHands.2.1 59 = .ok (.invokevirtual 32, 3) := by decide +kernel
theorem dX4_readsHands_62 : decode mX4_readsHands.2.1 62 = .ok (.iconst 1, 1) := by decide +kernel
theorem dX4_readsHands_63 : decode mX4_readsHands.2.1 63 = .ok (.ireturn, 1) := by decide +kernel
theorem dX4_readsOpinion_0 : decode mX4_readsOpinion.2.1 0 = .ok (.aload_n 0, 1) := by decide +kernel
theorem dX4_readsOpinion_1 : decode mX4_readsOpinion.2.1 1 = .ok (.getfield 9, 3) := by decide +kernel
theorem dX4_readsOpinion_4 : decode mX4_readsOpinion.2.1 4 = .ok (.ldc 101, 2) := by decide +kernel
theorem dX4_readsOpinion_6 : decode mX4_readsOpinion.2.1 6 = .ok (.invokevirtual 42, 3) := by decide +kernel
theorem dX4_readsOpinion_9 : decode mX4_readsOpinion.2.1 9 = .ok (.ifCond .ne 5, 3) := by decide +kernel
theorem dX4_readsOpinion_12 : decode mX4_readsOpinion.2.1 12 = .ok (.iconst 1, 1) := by decide +kernel
theorem dX4_readsOpinion_13 : decode mX4_readsOpinion.2.1 13 = .ok (.ireturn, 1) := by decide +kernel
theorem dX4_readsOpinion_14 : decode mX4_readsOpinion.2.1 14 = .ok (.aload_n 0, 1) := by decide +kernel
theorem dX4_readsOpinion_15 : decode mX4_readsOpinion.2.1 15 = .ok (.getfield 9, 3) := by decide +kernel
theorem dX4_readsOpinion_18 : decode mX4_readsOpinion.2.1 18 = .ok (.invokevirtual 32, 3) := by decide +kernel
theorem dX4_readsOpinion_21 : decode mX4_readsOpinion.2.1 21 = .ok (.aload_n 0, 1) := by decide +kernel
theorem dX4_readsOpinion_22 : decode mX4_readsOpinion.2.1 22 = .ok (.getfield 9, 3) := by decide +kernel
theorem dX4_readsOpinion_25 : decode mX4_readsOpinion.2.1 25 = .ok (.getfield 28, 3) := by decide +kernel
theorem dX4_readsOpinion_28 : decode mX4_readsOpinion.2.1 28 = .ok (.iconst 3, 1) := by decide +kernel
theorem dX4_readsOpinion_29 : decode mX4_readsOpinion.2.1 29 = .ok (.if_icmp .ne 7, 3) := by decide +kernel
theorem dX4_readsOpinion_32 : decode mX4_readsOpinion.2.1 32 = .ok (.iconst 1, 1) := by decide +kernel
theorem dX4_readsOpinion_33 : decode mX4_readsOpinion.2.1 33 = .ok (.goto 4, 3) := by decide +kernel
theorem dX4_readsOpinion_36 : decode mX4_readsOpinion.2.1 36 = .ok (.iconst 0, 1) := by decide +kernel
theorem dX4_readsOpinion_37 : decode mX4_readsOpinion.2.1 37 = .ok (.istore_n 2, 1) := by decide +kernel
theorem dX4_readsOpinion_38 : decode mX4_readsOpinion.2.1 38 = .ok (.iload_n 2, 1) := by decide +kernel
theorem dX4_readsOpinion_39 : decode mX4_readsOpinion.2.1 39 = .ok (.ifCond .eq 10, 3) := by decide +kernel
theorem dX4_readsOpinion_42 : decode mX4_readsOpinion.2.1 42 = .ok (.aload_n 0, 1) := by decide +kernel
theorem dX4_readsOpinion_43 : decode mX4_readsOpinion.2.1 43 = .ok (.getfield 9, 3) := by decide +kernel
theorem dX4_readsOpinion_46 : decode mX4_readsOpinion.2.1 46 = .ok (.invokevirtual 32, 3) := by decide +kernel
theorem dX4_readsOpinion_49 : decode mX4_readsOpinion.2.1 49 = .ok (.aload_n 0, 1) := by decide +kernel
theorem dX4_readsOpinion_50 : decode mX4_readsOpinion.2.1 50 = .ok (.getfield 9, 3) := by decide +kernel
theorem dX4_readsOpinion_53 : decode mX4_readsOpinion.2.1 53 = .ok (.iconst 0, 1) := by decide +kernel
theorem dX4_readsOpinion_54 : decode mX4_readsOpinion.2.1 54 = .ok (.getstatic 75, 3) := by decide +kernel
theorem dX4_readsOpinion_57 : decode mX4_readsOpinion.2.1 57 = .ok (.iconst 3, 1) := by decide +kernel
theorem dX4_readsOpinion_58 : decode mX4_readsOpinion.2.1 58 = .ok (.iaload, 1) := by decide +kernel
theorem dX4_readsOpinion_59 : decode mX4_readsOpinion.2.1 59 = .ok (.invokevirtual 61, 3) := by decide +kernel
theorem dX4_readsOpinion_62 : decode mX4_readsOpinion.2.1 62 = .ok (.ifCond .ne 5, 3) := by decide +kernel
theorem dX4_readsOpinion_65 : decode mX4_readsOpinion.2.1 65 = .ok (.iconst 0, 1) := by decide +kernel
theorem dX4_readsOpinion_66 : decode mX4_readsOpinion.2.1 66 = .ok (.ireturn, 1) := by decide +kernel
theorem dX4_readsOpinion_67 : decode mX4_readsOpinion.2.1 67 = .ok (.aload_n 1, 1) := by decide +kernel
theorem dX4_readsOpinion_68 : decode mX4_readsOpinion.2.1 68 = .ok (.iconst 3, 1) := by decide +kernel
theorem dX4_readsOpinion_69 : decode mX4_readsOpinion.2.1 69 = .ok (.iload_n 2, 1) := by decide +kernel
theorem dX4_readsOpinion_70 : decode mX4_readsOpinion.2.1 70 = .ok (.ifCond .eq 14, 3) := by decide +kernel
theorem dX4_readsOpinion_73 : decode mX4_readsOpinion.2.1 73 = .ok (.aload_n 0, 1) := by decide +kernel
theorem dX4_readsOpinion_74 : decode mX4_readsOpinion.2.1 74 = .ok (.getfield 9, 3) := by decide +kernel
theorem dX4_readsOpinion_77 : decode mX4_readsOpinion.2.1 77 = .ok (.getfield 69, 3) := by decide +kernel
theorem dX4_readsOpinion_80 : decode mX4_readsOpinion.2.1 80 = .ok (.ineg, 1) := by decide +kernel
theorem dX4_readsOpinion_81 : decode mX4_readsOpinion.2.1 81 = .ok (.goto 10, 3) := by decide +kernel
theorem dX4_readsOpinion_84 : decode mX4_readsOpinion.2.1 84 = .ok (.aload_n 0, 1) := by decide +kernel
theorem dX4_readsOpinion_85 : decode mX4_readsOpinion.2.1 85 = .ok (.getfield 9, 3) := by decide +kernel
theorem dX4_readsOpinion_88 : decode mX4_readsOpinion.2.1 88 = .ok (.getfield 69, 3) := by decide +kernel
theorem dX4_readsOpinion_91 : decode mX4_readsOpinion.2.1 91 = .ok (.invokevirtual 95, 3) := by decide +kernel
theorem dX4_readsOpinion_94 : decode mX4_readsOpinion.2.1 94 = .ok (.aload_n 0, 1) := by decide +kernel
theorem dX4_readsOpinion_95 : decode mX4_readsOpinion.2.1 95 = .ok (.getfield 9, 3) := by decide +kernel
theorem dX4_readsOpinion_98 : decode mX4_readsOpinion.2.1 98 = .ok (.invokevirtual 32, 3) := by decide +kernel
theorem dX4_readsOpinion_101 : decode mX4_readsOpinion.2.1 101 = .ok (.iconst 1, 1) := by decide +kernel
theorem dX4_readsOpinion_102 : decode mX4_readsOpinion.2.1 102 = .ok (.ireturn, 1) := by decide +kernel
theorem dX4_wordOfKind_0 : decode mX4_wordOfKind.2.1 0 = .ok (.iload_n 0, 1) := by decide +kernel
theorem dX4_wordOfKind_1 : decode mX4_wordOfKind.2.1 1 = .ok (.tableswitch 57 0 5 #[39, 42, 45, 48, 51, 54], 39) := by decide +kernel
theorem dX4_wordOfKind_40 : decode mX4_wordOfKind.2.1 40 = .ok (.ldc 103, 2) := by decide +kernel
theorem dX4_wordOfKind_42 : decode mX4_wordOfKind.2.1 42 = .ok (.areturn, 1) := by decide +kernel
theorem dX4_wordOfKind_43 : decode mX4_wordOfKind.2.1 43 = .ok (.ldc 105, 2) := by decide +kernel
theorem dX4_wordOfKind_45 : decode mX4_wordOfKind.2.1 45 = .ok (.areturn, 1) := by decide +kernel
theorem dX4_wordOfKind_46 : decode mX4_wordOfKind.2.1 46 = .ok (.ldc 107, 2) := by decide +kernel
theorem dX4_wordOfKind_48 : decode mX4_wordOfKind.2.1 48 = .ok (.areturn, 1) := by decide +kernel
theorem dX4_wordOfKind_49 : decode mX4_wordOfKind.2.1 49 = .ok (.ldc 109, 2) := by decide +kernel
theorem dX4_wordOfKind_51 : decode mX4_wordOfKind.2.1 51 = .ok (.areturn, 1) := by decide +kernel
theorem dX4_wordOfKind_52 : decode mX4_wordOfKind.2.1 52 = .ok (.ldc 111, 2) := by decide +kernel
theorem dX4_wordOfKind_54 : decode mX4_wordOfKind.2.1 54 = .ok (.areturn, 1) := by decide +kernel
theorem dX4_wordOfKind_55 : decode mX4_wordOfKind.2.1 55 = .ok (.ldc 113, 2) := by decide +kernel
theorem dX4_wordOfKind_57 : decode mX4_wordOfKind.2.1 57 = .ok (.areturn, 1) := by decide +kernel
theorem dX4_wordOfKind_58 : decode mX4_wordOfKind.2.1 58 = .ok (.ldc 115, 2) := by decide +kernel
theorem dX4_wordOfKind_60 : decode mX4_wordOfKind.2.1 60 = .ok (.areturn, 1) := by decide +kernel
theorem dX4_wordOfWeather_0 : decode mX4_wordOfWeather.2.1 0 = .ok (.iload_n 0, 1) := by decide +kernel
theorem dX4_wordOfWeather_1 : decode mX4_wordOfWeather.2.1 1 = .ok (.lookupswitch 33 #[(0, 27), (1, 30)], 27) := by decide +kernel
theorem dX4_wordOfWeather_28 : decode mX4_wordOfWeather.2.1 28 = .ok (.ldc 117, 2) := by decide +kernel
theorem dX4_wordOfWeather_30 : decode mX4_wordOfWeather.2.1 30 = .ok (.areturn, 1) := by decide +kernel
theorem dX4_wordOfWeather_31 : decode mX4_wordOfWeather.2.1 31 = .ok (.ldc 119, 2) := by decide +kernel
theorem dX4_wordOfWeather_33 : decode mX4_wordOfWeather.2.1 33 = .ok (.areturn, 1) := by decide +kernel
theorem dX4_wordOfWeather_34 : decode mX4_wordOfWeather.2.1 34 = .ok (.ldc 121, 2) := by decide +kernel
theorem dX4_wordOfWeather_36 : decode mX4_wordOfWeather.2.1 36 = .ok (.areturn, 1) := by decide +kernel
end
section
/-! decode rows -/
theorem dX5_weather_0 : decode mX5_weather.2.1 0 = .ok (.iload_n 1, 1) := by decide +kernel
theorem dX5_weather_1 : decode mX5_weather.2.1 1 = .ok (.iconst 0, 1) := by decide +kernel
theorem dX5_weather_2 : decode mX5_weather.2.1 2 = .ok (.iconst 2, 1) := by decide +kernel
theorem dX5_weather_3 : decode mX5_weather.2.1 3 = .ok (.invokestatic 53, 3) := by decide +kernel
theorem dX5_weather_6 : decode mX5_weather.2.1 6 = .ok (.ifCond .eq 13, 3) := by decide +kernel
theorem dX5_weather_9 : decode mX5_weather.2.1 9 = .ok (.iload_n 2, 1) := by decide +kernel
theorem dX5_weather_10 : decode mX5_weather.2.1 10 = .ok (.iconst 0, 1) := by decide +kernel
theorem dX5_weather_11 : decode mX5_weather.2.1 11 = .ok (.bipush 99, 2) := by decide +kernel
theorem dX5_weather_13 : decode mX5_weather.2.1 13 = .ok (.invokestatic 53, 3) := by decide +kernel
theorem dX5_weather_16 : decode mX5_weather.2.1 16 = .ok (.ifCond .ne 9, 3) := by decide +kernel
theorem dX5_weather_19 : decode mX5_weather.2.1 19 = .ok (.aload_n 0, 1) := by decide +kernel
theorem dX5_weather_20 : decode mX5_weather.2.1 20 = .ok (.iconst 0, 1) := by decide +kernel
theorem dX5_weather_21 : decode mX5_weather.2.1 21 = .ok (.invokevirtual 57, 3) := by decide +kernel
theorem dX5_weather_24 : decode mX5_weather.2.1 24 = .ok (.ireturn, 1) := by decide +kernel
theorem dX5_weather_25 : decode mX5_weather.2.1 25 = .ok (.aload_n 0, 1) := by decide +kernel
theorem dX5_weather_26 : decode mX5_weather.2.1 26 = .ok (.getfield 10, 3) := by decide +kernel
theorem dX5_weather_29 : decode mX5_weather.2.1 29 = .ok (.getfield 61, 3) := by decide +kernel
theorem dX5_weather_32 : decode mX5_weather.2.1 32 = .ok (.iload_n 1, 1) := by decide +kernel
theorem dX5_weather_33 : decode mX5_weather.2.1 33 = .ok (.iaload, 1) := by decide +kernel
theorem dX5_weather_34 : decode mX5_weather.2.1 34 = .ok (.istore_n 3, 1) := by decide +kernel
theorem dX5_weather_35 : decode mX5_weather.2.1 35 = .ok (.aload_n 0, 1) := by decide +kernel
theorem dX5_weather_36 : decode mX5_weather.2.1 36 = .ok (.getfield 10, 3) := by decide +kernel
theorem dX5_weather_39 : decode mX5_weather.2.1 39 = .ok (.getfield 61, 3) := by decide +kernel
theorem dX5_weather_42 : decode mX5_weather.2.1 42 = .ok (.iload_n 1, 1) := by decide +kernel
theorem dX5_weather_43 : decode mX5_weather.2.1 43 = .ok (.iload_n 2, 1) := by decide +kernel
theorem dX5_weather_44 : decode mX5_weather.2.1 44 = .ok (.iastore, 1) := by decide +kernel
theorem dX5_weather_45 : decode mX5_weather.2.1 45 = .ok (.iload_n 3, 1) := by decide +kernel
theorem dX5_weather_46 : decode mX5_weather.2.1 46 = .ok (.ireturn, 1) := by decide +kernel
theorem dX5_farm_0 : decode mX5_farm.2.1 0 = .ok (.iconst 0, 1) := by decide +kernel
theorem dX5_farm_1 : decode mX5_farm.2.1 1 = .ok (.iload_n 1, 1) := by decide +kernel
theorem dX5_farm_2 : decode mX5_farm.2.1 2 = .ok (.invokestatic 64, 3) := by decide +kernel
theorem dX5_farm_5 : decode mX5_farm.2.1 5 = .ok (.ifCond .eq 11, 3) := by decide +kernel
theorem dX5_farm_8 : decode mX5_farm.2.1 8 = .ok (.iconst 1, 1) := by decide +kernel
theorem dX5_farm_9 : decode mX5_farm.2.1 9 = .ok (.iload_n 2, 1) := by decide +kernel
theorem dX5_farm_10 : decode mX5_farm.2.1 10 = .ok (.invokestatic 64, 3) := by decide +kernel
theorem dX5_farm_13 : decode mX5_farm.2.1 13 = .ok (.ifCond .ne 9, 3) := by decide +kernel
theorem dX5_farm_16 : decode mX5_farm.2.1 16 = .ok (.aload_n 0, 1) := by decide +kernel
theorem dX5_farm_17 : decode mX5_farm.2.1 17 = .ok (.iconst 0, 1) := by decide +kernel
theorem dX5_farm_18 : decode mX5_farm.2.1 18 = .ok (.invokevirtual 57, 3) := by decide +kernel
theorem dX5_farm_21 : decode mX5_farm.2.1 21 = .ok (.ireturn, 1) := by decide +kernel
theorem dX5_farm_22 : decode mX5_farm.2.1 22 = .ok (.aload_n 0, 1) := by decide +kernel
theorem dX5_farm_23 : decode mX5_farm.2.1 23 = .ok (.getfield 10, 3) := by decide +kernel
theorem dX5_farm_26 : decode mX5_farm.2.1 26 = .ok (.invokevirtual 70, 3) := by decide +kernel
theorem dX5_farm_29 : decode mX5_farm.2.1 29 = .ok (.ifCond .eq 9, 3) := by decide +kernel
theorem dX5_farm_32 : decode mX5_farm.2.1 32 = .ok (.aload_n 0, 1) := by decide +kernel
theorem dX5_farm_33 : decode mX5_farm.2.1 33 = .ok (.iconst 1, 1) := by decide +kernel
theorem dX5_farm_34 : decode mX5_farm.2.1 34 = .ok (.invokevirtual 57, 3) := by decide +kernel
theorem dX5_farm_37 : decode mX5_farm.2.1 37 = .ok (.ireturn, 1) := by decide +kernel
theorem dX5_farm_38 : decode mX5_farm.2.1 38 = .ok (.aload_n 0, 1) := by decide +kernel
theorem dX5_farm_39 : decode mX5_farm.2.1 39 = .ok (.getfield 10, 3) := by decide +kernel
theorem dX5_farm_42 : decode mX5_farm.2.1 42 = .ok (.iload_n 1, 1) := by decide +kernel
theorem dX5_farm_43 : decode mX5_farm.2.1 43 = .ok (.iload_n 2, 1) := by decide +kernel
theorem dX5_farm_44 : decode mX5_farm.2.1 44 = .ok (.invokevirtual 74, 3) := by decide +kernel
theorem dX5_farm_47 : decode mX5_farm.2.1 47 = .ok (.ireturn, 1) := by decide +kernel
theorem dX5_of_0 : decode mX5_of.2.1 0 = .ok (.aload_n 0, 1) := by decide +kernel
theorem dX5_of_1 : decode mX5_of.2.1 1 = .ok (.getfield 10, 3) := by decide +kernel
theorem dX5_of_4 : decode mX5_of.2.1 4 = .ok (.iload_n 1, 1) := by decide +kernel
theorem dX5_of_5 : decode mX5_of.2.1 5 = .ok (.invokevirtual 78, 3) := by decide +kernel
theorem dX5_of_8 : decode mX5_of.2.1 8 = .ok (.ifCond .eq 13, 3) := by decide +kernel
theorem dX5_of_11 : decode mX5_of.2.1 11 = .ok (.iload_n 2, 1) := by decide +kernel
theorem dX5_of_12 : decode mX5_of.2.1 12 = .ok (.iconst 0, 1) := by decide +kernel
theorem dX5_of_13 : decode mX5_of.2.1 13 = .ok (.bipush 7, 2) := by decide +kernel
theorem dX5_of_15 : decode mX5_of.2.1 15 = .ok (.invokestatic 53, 3) := by decide +kernel
theorem dX5_of_18 : decode mX5_of.2.1 18 = .ok (.ifCond .ne 9, 3) := by decide +kernel
theorem dX5_of_21 : decode mX5_of.2.1 21 = .ok (.aload_n 0, 1) := by decide +kernel
theorem dX5_of_22 : decode mX5_of.2.1 22 = .ok (.iconst 0, 1) := by decide +kernel
theorem dX5_of_23 : decode mX5_of.2.1 23 = .ok (.invokevirtual 57, 3) := by decide +kernel
theorem dX5_of_26 : decode mX5_of.2.1 26 = .ok (.ireturn, 1) := by decide +kernel
theorem dX5_of_27 : decode mX5_of.2.1 27 = .ok (.aload_n 0, 1) := by decide +kernel
theorem dX5_of_28 : decode mX5_of.2.1 28 = .ok (.getfield 10, 3) := by decide +kernel
theorem dX5_of_31 : decode mX5_of.2.1 31 = .ok (.getfield 82, 3) := by decide +kernel
theorem dX5_of_34 : decode mX5_of.2.1 34 = .ok (.iload_n 1, 1) := by decide +kernel
theorem dX5_of_35 : decode mX5_of.2.1 35 = .ok (.aaload, 1) := by decide +kernel
theorem dX5_of_36 : decode mX5_of.2.1 36 = .ok (.astore_n 3, 1) := by decide +kernel
theorem dX5_of_37 : decode mX5_of.2.1 37 = .ok (.aload_n 0, 1) := by decide +kernel
theorem dX5_of_38 : decode mX5_of.2.1 38 = .ok (.getfield 10, 3) := by decide +kernel
theorem dX5_of_41 : decode mX5_of.2.1 41 = .ok (.getfield 61, 3) := by decide +kernel
theorem dX5_of_44 : decode mX5_of.2.1 44 = .ok (.iconst 0, 1) := by decide +kernel
theorem dX5_of_45 : decode mX5_of.2.1 45 = .ok (.iaload, 1) := by decide +kernel
theorem dX5_of_46 : decode mX5_of.2.1 46 = .ok (.istore 4, 2) := by decide +kernel
theorem dX5_of_48 : decode mX5_of.2.1 48 = .ok (.iload_n 2, 1) := by decide +kernel
theorem dX5_of_49 : decode mX5_of.2.1 49 = .ok (.tableswitch 50 5 7 #[27, 38, 45], 27) := by decide +kernel
theorem dX5_of_76 : decode mX5_of.2.1 76 = .ok (.aload_n 3, 1) := by decide +kernel
theorem dX5_of_77 : decode mX5_of.2.1 77 = .ok (.aload_n 3, 1) := by decide +kernel
theorem dX5_of_78 : decode mX5_of.2.1 78 = .ok (.getfield 86, 3) := by decide +kernel
theorem dX5_of_81 : decode mX5_of.2.1 81 = .ok (.iload 4, 2) := by decide +kernel
theorem dX5_of_83 : decode mX5_of.2.1 83 = .ok (.invokevirtual 90, 3) := by decide +kernel
theorem dX5_of_86 : decode mX5_of.2.1 86 = .ok (.ireturn, 1) := by decide +kernel
theorem dX5_of_87 : decode mX5_of.2.1 87 = .ok (.aload_n 3, 1) := by decide +kernel
theorem dX5_of_88 : decode mX5_of.2.1 88 = .ok (.iload 4, 2) := by decide +kernel
theorem dX5_of_90 : decode mX5_of.2.1 90 = .ok (.invokevirtual 93, 3) := by decide +kernel
theorem dX5_of_93 : decode mX5_of.2.1 93 = .ok (.ireturn, 1) := by decide +kernel
theorem dX5_of_94 : decode mX5_of.2.1 94 = .ok (.aload_n 3, 1) := by decide +kernel
theorem dX5_of_95 : decode mX5_of.2.1 95 = .ok (.invokevirtual 96, 3) := by decide +kernel
theorem dX5_of_98 : decode mX5_of.2.1 98 = .ok (.ireturn, 1) := by decide +kernel
theorem dX5_of_99 : decode mX5_of.2.1 99 = .ok (.aload_n 3, 1) := by decide +kernel
theorem dX5_of_100 : decode mX5_of.2.1 100 = .ok (.iload_n 2, 1) := by decide +kernel
theorem dX5_of_101 : decode mX5_of.2.1 101 = .ok (.invokevirtual 100, 3) := by decide +kernel
theorem dX5_of_104 : decode mX5_of.2.1 104 = .ok (.ireturn, 1) := by decide +kernel
theorem dX5_change_0 : decode mX5_change.2.1 0 = .ok (.aload_n 0, 1) := by decide +kernel
theorem dX5_change_1 : decode mX5_change.2.1 1 = .ok (.getfield 10, 3) := by decide +kernel
theorem dX5_change_4 : decode mX5_change.2.1 4 = .ok (.iload_n 1, 1) := by decide +kernel
theorem dX5_change_5 : decode mX5_change.2.1 5 = .ok (.invokevirtual 78, 3) := by decide +kernel
theorem dX5_change_8 : decode mX5_change.2.1 8 = .ok (.ifCond .eq 11, 3) := by decide +kernel
theorem dX5_change_11 : decode mX5_change.2.1 11 = .ok (.iload_n 2, 1) := by decide +kernel
theorem dX5_change_12 : decode mX5_change.2.1 12 = .ok (.iload_n 3, 1) := by decide +kernel
theorem dX5_change_13 : decode mX5_change.2.1 13 = .ok (.invokestatic 64, 3) := by decide +kernel
theorem dX5_change_16 : decode mX5_change.2.1 16 = .ok (.ifCond .ne 9, 3) := by decide +kernel
theorem dX5_change_19 : decode mX5_change.2.1 19 = .ok (.aload_n 0, 1) := by decide +kernel
theorem dX5_change_20 : decode mX5_change.2.1 20 = .ok (.iconst 0, 1) := by decide +kernel
theorem dX5_change_21 : decode mX5_change.2.1 21 = .ok (.invokevirtual 57, 3) := by decide +kernel
theorem dX5_change_24 : decode mX5_change.2.1 24 = .ok (.ireturn, 1) := by decide +kernel
theorem dX5_change_25 : decode mX5_change.2.1 25 = .ok (.aload_n 0, 1) := by decide +kernel
theorem dX5_change_26 : decode mX5_change.2.1 26 = .ok (.getfield 10, 3) := by decide +kernel
theorem dX5_change_29 : decode mX5_change.2.1 29 = .ok (.getfield 82, 3) := by decide +kernel
theorem dX5_change_32 : decode mX5_change.2.1 32 = .ok (.iload_n 1, 1) := by decide +kernel
theorem dX5_change_33 : decode mX5_change.2.1 33 = .ok (.aaload, 1) := by decide +kernel
theorem dX5_change_34 : decode mX5_change.2.1 34 = .ok (.astore 4, 2) := by decide +kernel
theorem dX5_change_36 : decode mX5_change.2.1 36 = .ok (.aload 4, 2) := by decide +kernel
theorem dX5_change_38 : decode mX5_change.2.1 38 = .ok (.iload_n 2, 1) := by decide +kernel
theorem dX5_change_39 : decode mX5_change.2.1 39 = .ok (.invokevirtual 100, 3) := by decide +kernel
theorem dX5_change_42 : decode mX5_change.2.1 42 = .ok (.istore 5, 2) := by decide +kernel
theorem dX5_change_44 : decode mX5_change.2.1 44 = .ok (.aload 4, 2) := by decide +kernel
theorem dX5_change_46 : decode mX5_change.2.1 46 = .ok (.iload_n 2, 1) := by decide +kernel
theorem dX5_change_47 : decode mX5_change.2.1 47 = .ok (.iload_n 3, 1) := by decide +kernel
theorem dX5_change_48 : decode mX5_change.2.1 48 = .ok (.invokevirtual 103, 3) := by decide +kernel
theorem dX5_change_51 : decode mX5_change.2.1 51 = .ok (.iload 5, 2) := by decide +kernel
theorem dX5_change_53 : decode mX5_change.2.1 53 = .ok (.ireturn, 1) := by decide +kernel
theorem dX5_left_0 : decode mX5_left.2.1 0 = .ok (.aload_n 0, 1) := by decide +kernel
theorem dX5_left_1 : decode mX5_left.2.1 1 = .ok (.getfield 10, 3) := by decide +kernel
theorem dX5_left_4 : decode mX5_left.2.1 4 = .ok (.iload_n 1, 1) := by decide +kernel
theorem dX5_left_5 : decode mX5_left.2.1 5 = .ok (.invokevirtual 78, 3) := by decide +kernel
theorem dX5_left_8 : decode mX5_left.2.1 8 = .ok (.ifCond .eq 14, 3) := by decide +kernel
theorem dX5_left_11 : decode mX5_left.2.1 11 = .ok (.iload_n 2, 1) := by decide +kernel
theorem dX5_left_12 : decode mX5_left.2.1 12 = .ok (.iconst 0, 1) := by decide +kernel
theorem dX5_left_13 : decode mX5_left.2.1 13 = .ok (.sipush 999, 3) := by decide +kernel
theorem dX5_left_16 : decode mX5_left.2.1 16 = .ok (.invokestatic 53, 3) := by decide +kernel
theorem dX5_left_19 : decode mX5_left.2.1 19 = .ok (.ifCond .ne 9, 3) := by decide +kernel
theorem dX5_left_22 : decode mX5_left.2.1 22 = .ok (.aload_n 0, 1) := by decide +kernel
theorem dX5_left_23 : decode mX5_left.2.1 23 = .ok (.iconst 0, 1) := by decide +kernel
theorem dX5_left_24 : decode mX5_left.2.1 24 = .ok (.invokevirtual 57, 3) := by decide +kernel
theorem dX5_left_27 : decode mX5_left.2.1 27 = .ok (.ireturn, 1) := by decide +kernel
theorem dX5_left_28 : decode mX5_left.2.1 28 = .ok (.aload_n 0, 1) := by decide +kernel
theorem dX5_left_29 : decode mX5_left.2.1 29 = .ok (.getfield 10, 3) := by decide +kernel
theorem dX5_left_32 : decode mX5_left.2.1 32 = .ok (.getfield 82, 3) := by decide +kernel
theorem dX5_left_35 : decode mX5_left.2.1 35 = .ok (.iload_n 1, 1) := by decide +kernel
theorem dX5_left_36 : decode mX5_left.2.1 36 = .ok (.aaload, 1) := by decide +kernel
theorem dX5_left_37 : decode mX5_left.2.1 37 = .ok (.iload_n 2, 1) := by decide +kernel
theorem dX5_left_38 : decode mX5_left.2.1 38 = .ok (.aload_n 0, 1) := by decide +kernel
theorem dX5_left_39 : decode mX5_left.2.1 39 = .ok (.getfield 10, 3) := by decide +kernel
theorem dX5_left_42 : decode mX5_left.2.1 42 = .ok (.getfield 61, 3) := by decide +kernel
theorem dX5_left_45 : decode mX5_left.2.1 45 = .ok (.iconst 0, 1) := by decide +kernel
theorem dX5_left_46 : decode mX5_left.2.1 46 = .ok (.iaload, 1) := by decide +kernel
theorem dX5_left_47 : decode mX5_left.2.1 47 = .ok (.invokevirtual 107, 3) := by decide +kernel
theorem dX5_left_50 : decode mX5_left.2.1 50 = .ok (.ireturn, 1) := by decide +kernel
theorem dX5_last_0 : decode mX5_last.2.1 0 = .ok (.aload_n 0, 1) := by decide +kernel
theorem dX5_last_1 : decode mX5_last.2.1 1 = .ok (.getfield 10, 3) := by decide +kernel
theorem dX5_last_4 : decode mX5_last.2.1 4 = .ok (.invokevirtual 110, 3) := by decide +kernel
theorem dX5_last_7 : decode mX5_last.2.1 7 = .ok (.ireturn, 1) := by decide +kernel
theorem dX5_first_0 : decode mX5_first.2.1 0 = .ok (.aload_n 0, 1) := by decide +kernel
theorem dX5_first_1 : decode mX5_first.2.1 1 = .ok (.getfield 10, 3) := by decide +kernel
theorem dX5_first_4 : decode mX5_first.2.1 4 = .ok (.invokevirtual 113, 3) := by decide +kernel
theorem dX5_first_7 : decode mX5_first.2.1 7 = .ok (.ireturn, 1) := by decide +kernel
theorem dX5_next_0 : decode mX5_next.2.1 0 = .ok (.aload_n 0, 1) := by decide +kernel
theorem dX5_next_1 : decode mX5_next.2.1 1 = .ok (.getfield 10, 3) := by decide +kernel
theorem dX5_next_4 : decode mX5_next.2.1 4 = .ok (.aload_n 0, 1) := by decide +kernel
theorem dX5_next_5 : decode mX5_next.2.1 5 = .ok (.getfield 10, 3) := by decide +kernel
theorem dX5_next_8 : decode mX5_next.2.1 8 = .ok (.invokevirtual 116, 3) := by decide +kernel
theorem dX5_next_11 : decode mX5_next.2.1 11 = .ok (.invokevirtual 119, 3) := by decide +kernel
theorem dX5_next_14 : decode mX5_next.2.1 14 = .ok (.ireturn, 1) := by decide +kernel
theorem dX5_lean_0 : decode mX5_lean.2.1 0 = .ok (.aload_n 0, 1) := by decide +kernel
theorem dX5_lean_1 : decode mX5_lean.2.1 1 = .ok (.getfield 10, 3) := by decide +kernel
theorem dX5_lean_4 : decode mX5_lean.2.1 4 = .ok (.invokevirtual 122, 3) := by decide +kernel
theorem dX5_lean_7 : decode mX5_lean.2.1 7 = .ok (.ireturn, 1) := by decide +kernel
theorem dX5_answer_0 : decode mX5_answer.2.1 0 = .ok (.iload_n 1, 1) := by decide +kernel
theorem dX5_answer_1 : decode mX5_answer.2.1 1 = .ok (.invokestatic 125, 3) := by decide +kernel
theorem dX5_answer_4 : decode mX5_answer.2.1 4 = .ok (.ifCond .ne 9, 3) := by decide +kernel
theorem dX5_answer_7 : decode mX5_answer.2.1 7 = .ok (.aload_n 0, 1) := by decide +kernel
theorem dX5_answer_8 : decode mX5_answer.2.1 8 = .ok (.iconst 0, 1) := by decide +kernel
theorem dX5_answer_9 : decode mX5_answer.2.1 9 = .ok (.invokevirtual 57, 3) := by decide +kernel
theorem dX5_answer_12 : decode mX5_answer.2.1 12 = .ok (.ireturn, 1) := by decide +kernel
theorem dX5_answer_13 : decode mX5_answer.2.1 13 = .ok (.aload_n 0, 1) := by decide +kernel
theorem dX5_answer_14 : decode mX5_answer.2.1 14 = .ok (.getfield 10, 3) := by decide +kernel
theorem dX5_answer_17 : decode mX5_answer.2.1 17 = .ok (.iload_n 1, 1) := by decide +kernel
theorem dX5_answer_18 : decode mX5_answer.2.1 18 = .ok (.invokevirtual 128, 3) := by decide +kernel
theorem dX5_answer_21 : decode mX5_answer.2.1 21 = .ok (.ireturn, 1) := by decide +kernel
theorem dX5_go_0 : decode mX5_go.2.1 0 = .ok (.iload_n 1, 1) := by decide +kernel
theorem dX5_go_1 : decode mX5_go.2.1 1 = .ok (.iconst 1, 1) := by decide +kernel
theorem dX5_go_2 : decode mX5_go.2.1 2 = .ok (.bipush 60, 2) := by decide +kernel
theorem dX5_go_4 : decode mX5_go.2.1 4 = .ok (.invokestatic 53, 3) := by decide +kernel
theorem dX5_go_7 : decode mX5_go.2.1 7 = .ok (.ifCond .ne 9, 3) := by decide +kernel
theorem dX5_go_10 : decode mX5_go.2.1 10 = .ok (.aload_n 0, 1) := by decide +kernel
theorem dX5_go_11 : decode mX5_go.2.1 11 = .ok (.iconst 0, 1) := by decide +kernel
theorem dX5_go_12 : decode mX5_go.2.1 12 = .ok (.invokevirtual 57, 3) := by decide +kernel
theorem dX5_go_15 : decode mX5_go.2.1 15 = .ok (.ireturn, 1) := by decide +kernel
theorem dX5_go_16 : decode mX5_go.2.1 16 = .ok (.aload_n 0, 1) := by decide +kernel
theorem dX5_go_17 : decode mX5_go.2.1 17 = .ok (.getfield 10, 3) := by decide +kernel
theorem dX5_go_20 : decode mX5_go.2.1 20 = .ok (.getfield 131, 3) := by decide +kernel
theorem dX5_go_23 : decode mX5_go.2.1 23 = .ok (.iload_n 1, 1) := by decide +kernel
theorem dX5_go_24 : decode mX5_go.2.1 24 = .ok (.iadd, 1) := by decide +kernel
theorem dX5_go_25 : decode mX5_go.2.1 25 = .ok (.ldc 134, 2) := by decide +kernel
theorem dX5_go_27 : decode mX5_go.2.1 27 = .ok (.if_icmp .le 9, 3) := by decide +kernel
theorem dX5_go_30 : decode mX5_go.2.1 30 = .ok (.aload_n 0, 1) := by decide +kernel
theorem dX5_go_31 : decode mX5_go.2.1 31 = .ok (.iconst 4, 1) := by decide +kernel
theorem dX5_go_32 : decode mX5_go.2.1 32 = .ok (.invokevirtual 57, 3) := by decide +kernel
theorem dX5_go_35 : decode mX5_go.2.1 35 = .ok (.ireturn, 1) := by decide +kernel
theorem dX5_go_36 : decode mX5_go.2.1 36 = .ok (.iconst 0, 1) := by decide +kernel
theorem dX5_go_37 : decode mX5_go.2.1 37 = .ok (.istore_n 2, 1) := by decide +kernel
theorem dX5_go_38 : decode mX5_go.2.1 38 = .ok (.iload_n 2, 1) := by decide +kernel
theorem dX5_go_39 : decode mX5_go.2.1 39 = .ok (.iload_n 1, 1) := by decide +kernel
theorem dX5_go_40 : decode mX5_go.2.1 40 = .ok (.if_icmp .ge 16, 3) := by decide +kernel
theorem dX5_go_43 : decode mX5_go.2.1 43 = .ok (.aload_n 0, 1) := by decide +kernel
theorem dX5_go_44 : decode mX5_go.2.1 44 = .ok (.getfield 10, 3) := by decide +kernel
theorem dX5_go_47 : decode mX5_go.2.1 47 = .ok (.invokevirtual 135, 3) := by decide +kernel
theorem dX5_go_50 : decode mX5_go.2.1 50 = .ok (.iinc 2 1, 3) := by decide +kernel
theorem dX5_go_53 : decode mX5_go.2.1 53 = .ok (.goto (-15), 3) := by decide +kernel
theorem dX5_go_56 : decode mX5_go.2.1 56 = .ok (.aload_n 0, 1) := by decide +kernel
theorem dX5_go_57 : decode mX5_go.2.1 57 = .ok (.getfield 10, 3) := by decide +kernel
theorem dX5_go_60 : decode mX5_go.2.1 60 = .ok (.invokevirtual 122, 3) := by decide +kernel
theorem dX5_go_63 : decode mX5_go.2.1 63 = .ok (.ireturn, 1) := by decide +kernel
theorem dX5_now_0 : decode mX5_now.2.1 0 = .ok (.iload_n 1, 1) := by decide +kernel
theorem dX5_now_1 : decode mX5_now.2.1 1 = .ok (.tableswitch 90 0 5 #[39, 47, 56, 65, 73, 82], 39) := by decide +kernel
theorem dX5_now_40 : decode mX5_now.2.1 40 = .ok (.aload_n 0, 1) := by decide +kernel
theorem dX5_now_41 : decode mX5_now.2.1 41 = .ok (.getfield 10, 3) := by decide +kernel
theorem dX5_now_44 : decode mX5_now.2.1 44 = .ok (.getfield 131, 3) := by decide +kernel
theorem dX5_now_47 : decode mX5_now.2.1 47 = .ok (.ireturn, 1) := by decide +kernel
theorem dX5_now_48 : decode mX5_now.2.1 48 = .ok (.aload_n 0, 1) := by decide +kernel
theorem dX5_now_49 : decode mX5_now.2.1 49 = .ok (.getfield 10, 3) := by decide +kernel
theorem dX5_now_52 : decode mX5_now.2.1 52 = .ok (.iconst 2, 1) := by decide +kernel
theorem dX5_now_53 : decode mX5_now.2.1 53 = .ok (.invokevirtual 138, 3) := by decide +kernel
theorem dX5_now_56 : decode mX5_now.2.1 56 = .ok (.ireturn, 1) := by decide +kernel
theorem dX5_now_57 : decode mX5_now.2.1 57 = .ok (.aload_n 0, 1) := by decide +kernel
theorem dX5_now_58 : decode mX5_now.2.1 58 = .ok (.getfield 10, 3) := by decide +kernel
theorem dX5_now_61 : decode mX5_now.2.1 61 = .ok (.iconst 3, 1) := by decide +kernel
theorem dX5_now_62 : decode mX5_now.2.1 62 = .ok (.invokevirtual 138, 3) := by decide +kernel
theorem dX5_now_65 : decode mX5_now.2.1 65 = .ok (.ireturn, 1) := by decide +kernel
theorem dX5_now_66 : decode mX5_now.2.1 66 = .ok (.aload_n 0, 1) := by decide +kernel
theorem dX5_now_67 : decode mX5_now.2.1 67 = .ok (.getfield 10, 3) := by decide +kernel
theorem dX5_now_70 : decode mX5_now.2.1 70 = .ok (.invokevirtual 141, 3) := by decide +kernel
theorem dX5_now_73 : decode mX5_now.2.1 73 = .ok (.ireturn, 1) := by decide +kernel
theorem dX5_now_74 : decode mX5_now.2.1 74 = .ok (.aload_n 0, 1) := by decide +kernel
theorem dX5_now_75 : decode mX5_now.2.1 75 = .ok (.getfield 10, 3) := by decide +kernel
theorem dX5_now_78 : decode mX5_now.2.1 78 = .ok (.iconst 1, 1) := by decide +kernel
theorem dX5_now_79 : decode mX5_now.2.1 79 = .ok (.invokevirtual 138, 3) := by decide +kernel
theorem dX5_now_82 : decode mX5_now.2.1 82 = .ok (.ireturn, 1) := by decide +kernel
theorem dX5_now_83 : decode mX5_now.2.1 83 = .ok (.aload_n 0, 1) := by decide +kernel
theorem dX5_now_84 : decode mX5_now.2.1 84 = .ok (.getfield 10, 3) := by decide +kernel
theorem dX5_now_87 : decode mX5_now.2.1 87 = .ok (.invokevirtual 116, 3) := by decide +kernel
theorem dX5_now_90 : decode mX5_now.2.1 90 = .ok (.ireturn, 1) := by decide +kernel
theorem dX5_now_91 : decode mX5_now.2.1 91 = .ok (.aload_n 0, 1) := by decide +kernel
theorem dX5_now_92 : decode mX5_now.2.1 92 = .ok (.iconst 0, 1) := by decide +kernel
theorem dX5_now_93 : decode mX5_now.2.1 93 = .ok (.invokevirtual 57, 3) := by decide +kernel
theorem dX5_now_96 : decode mX5_now.2.1 96 = .ok (.ireturn, 1) := by decide +kernel
theorem dX5_holder_0 : decode mX5_holder.2.1 0 = .ok (.iload_n 1, 1) := by decide +kernel
theorem dX5_holder_1 : decode mX5_holder.2.1 1 = .ok (.invokestatic 144, 3) := by decide +kernel
theorem dX5_holder_4 : decode mX5_holder.2.1 4 = .ok (.ifCond .ne 9, 3) := by decide +kernel
theorem dX5_holder_7 : decode mX5_holder.2.1 7 = .ok (.aload_n 0, 1) := by decide +kernel
theorem dX5_holder_8 : decode mX5_holder.2.1 8 = .ok (.iconst 0, 1) := by decide +kernel
theorem dX5_holder_9 : decode mX5_holder.2.1 9 = .ok (.invokevirtual 57, 3) := by decide +kernel
theorem dX5_holder_12 : decode mX5_holder.2.1 12 = .ok (.ireturn, 1) := by decide +kernel
theorem dX5_holder_13 : decode mX5_holder.2.1 13 = .ok (.aload_n 0, 1) := by decide +kernel
theorem dX5_holder_14 : decode mX5_holder.2.1 14 = .ok (.iload_n 1, 1) := by decide +kernel
theorem dX5_holder_15 : decode mX5_holder.2.1 15 = .ok (.invokevirtual 147, 3) := by decide +kernel
theorem dX5_holder_18 : decode mX5_holder.2.1 18 = .ok (.invokevirtual 110, 3) := by decide +kernel
theorem dX5_holder_21 : decode mX5_holder.2.1 21 = .ok (.ireturn, 1) := by decide +kernel
theorem dX5_ahead_0 : decode mX5_ahead.2.1 0 = .ok (.aload_n 0, 1) := by decide +kernel
theorem dX5_ahead_1 : decode mX5_ahead.2.1 1 = .ok (.getfield 10, 3) := by decide +kernel
theorem dX5_ahead_4 : decode mX5_ahead.2.1 4 = .ok (.iload_n 1, 1) := by decide +kernel
theorem dX5_ahead_5 : decode mX5_ahead.2.1 5 = .ok (.invokevirtual 78, 3) := by decide +kernel
theorem dX5_ahead_8 : decode mX5_ahead.2.1 8 = .ok (.ifCond .eq 19, 3) := by decide +kernel
theorem dX5_ahead_11 : decode mX5_ahead.2.1 11 = .ok (.iload_n 2, 1) := by decide +kernel
theorem dX5_ahead_12 : decode mX5_ahead.2.1 12 = .ok (.iconst 2, 1) := by decide +kernel
theorem dX5_ahead_13 : decode mX5_ahead.2.1 13 = .ok (.iconst 4, 1) := by decide +kernel
theorem dX5_ahead_14 : decode mX5_ahead.2.1 14 = .ok (.invokestatic 53, 3) := by decide +kernel
theorem dX5_ahead_17 : decode mX5_ahead.2.1 17 = .ok (.ifCond .eq 10, 3) := by decide +kernel
theorem dX5_ahead_20 : decode mX5_ahead.2.1 20 = .ok (.iload_n 3, 1) := by decide +kernel
theorem dX5_ahead_21 : decode mX5_ahead.2.1 21 = .ok (.invokestatic 144, 3) := by decide +kernel
theorem dX5_ahead_24 : decode mX5_ahead.2.1 24 = .ok (.ifCond .ne 9, 3) := by decide +kernel
theorem dX5_ahead_27 : decode mX5_ahead.2.1 27 = .ok (.aload_n 0, 1) := by decide +kernel
theorem dX5_ahead_28 : decode mX5_ahead.2.1 28 = .ok (.iconst 0, 1) := by decide +kernel
theorem dX5_ahead_29 : decode mX5_ahead.2.1 29 = .ok (.invokevirtual 57, 3) := by decide +kernel
theorem dX5_ahead_32 : decode mX5_ahead.2.1 32 = .ok (.ireturn, 1) := by decide +kernel
theorem dX5_ahead_33 : decode mX5_ahead.2.1 33 = .ok (.aload_n 0, 1) := by decide +kernel
theorem dX5_ahead_34 : decode mX5_ahead.2.1 34 = .ok (.iload_n 3, 1) := by decide +kernel
theorem dX5_ahead_35 : decode mX5_ahead.2.1 35 = .ok (.invokevirtual 147, 3) := by decide +kernel
theorem dX5_ahead_38 : decode mX5_ahead.2.1 38 = .ok (.getfield 82, 3) := by decide +kernel
theorem dX5_ahead_41 : decode mX5_ahead.2.1 41 = .ok (.iload_n 1, 1) := by decide +kernel
theorem dX5_ahead_42 : decode mX5_ahead.2.1 42 = .ok (.aaload, 1) := by decide +kernel
theorem dX5_ahead_43 : decode mX5_ahead.2.1 43 = .ok (.iload_n 2, 1) := by decide +kernel
theorem dX5_ahead_44 : decode mX5_ahead.2.1 44 = .ok (.invokevirtual 100, 3) := by decide +kernel
theorem dX5_ahead_47 : decode mX5_ahead.2.1 47 = .ok (.ireturn, 1) := by decide +kernel
theorem dX5_leans_0 : decode mX5_leans.2.1 0 = .ok (.iload_n 1, 1) := by decide +kernel
theorem dX5_leans_1 : decode mX5_leans.2.1 1 = .ok (.invokestatic 144, 3) := by decide +kernel
theorem dX5_leans_4 : decode mX5_leans.2.1 4 = .ok (.ifCond .ne 9, 3) := by decide +kernel
theorem dX5_leans_7 : decode mX5_leans.2.1 7 = .ok (.aload_n 0, 1) := by decide +kernel
theorem dX5_leans_8 : decode mX5_leans.2.1 8 = .ok (.iconst 0, 1) := by decide +kernel
theorem dX5_leans_9 : decode mX5_leans.2.1 9 = .ok (.invokevirtual 57, 3) := by decide +kernel
theorem dX5_leans_12 : decode mX5_leans.2.1 12 = .ok (.ireturn, 1) := by decide +kernel
theorem dX5_leans_13 : decode mX5_leans.2.1 13 = .ok (.aload_n 0, 1) := by decide +kernel
theorem dX5_leans_14 : decode mX5_leans.2.1 14 = .ok (.iload_n 1, 1) := by decide +kernel
theorem dX5_leans_15 : decode mX5_leans.2.1 15 = .ok (.invokevirtual 147, 3) := by decide +kernel
theorem dX5_leans_18 : decode mX5_leans.2.1 18 = .ok (.invokevirtual 122, 3) := by decide +kernel
theorem dX5_leans_21 : decode mX5_leans.2.1 21 = .ok (.ireturn, 1) := by decide +kernel
theorem dX5_when_0 : decode mX5_when.2.1 0 = .ok (.aload_n 0, 1) := by decide +kernel
theorem dX5_when_1 : decode mX5_when.2.1 1 = .ok (.getfield 10, 3) := by decide +kernel
theorem dX5_when_4 : decode mX5_when.2.1 4 = .ok (.iload_n 1, 1) := by decide +kernel
theorem dX5_when_5 : decode mX5_when.2.1 5 = .ok (.invokevirtual 78, 3) := by decide +kernel
theorem dX5_when_8 : decode mX5_when.2.1 8 = .ok (.ifCond .ne 9, 3) := by decide +kernel
theorem dX5_when_11 : decode mX5_when.2.1 11 = .ok (.aload_n 0, 1) := by decide +kernel
theorem dX5_when_12 : decode mX5_when.2.1 12 = .ok (.iconst 0, 1) := by decide +kernel
theorem dX5_when_13 : decode mX5_when.2.1 13 = .ok (.invokevirtual 57, 3) := by decide +kernel
theorem dX5_when_16 : decode mX5_when.2.1 16 = .ok (.ireturn, 1) := by decide +kernel
theorem dX5_when_17 : decode mX5_when.2.1 17 = .ok (.aload_n 0, 1) := by decide +kernel
theorem dX5_when_18 : decode mX5_when.2.1 18 = .ok (.getfield 19, 3) := by decide +kernel
theorem dX5_when_21 : decode mX5_when.2.1 21 = .ok (.aload_n 0, 1) := by decide +kernel
theorem dX5_when_22 : decode mX5_when.2.1 22 = .ok (.getfield 10, 3) := by decide +kernel
theorem dX5_when_25 : decode mX5_when.2.1 25 = .ok (.invokevirtual 151, 3) := by decide +kernel
theorem dX5_when_28 : decode mX5_when.2.1 28 = .ok (.iconst 0, 1) := by decide +kernel
theorem dX5_when_29 : decode mX5_when.2.1 29 = .ok (.istore_n 2, 1) := by decide +kernel
theorem dX5_when_30 : decode mX5_when.2.1 30 = .ok (.iload_n 2, 1) := by decide +kernel
theorem dX5_when_31 : decode mX5_when.2.1 31 = .ok (.bipush 60, 2) := by decide +kernel
theorem dX5_when_33 : decode mX5_when.2.1 33 = .ok (.if_icmp .gt 29, 3) := by decide +kernel
theorem dX5_when_36 : decode mX5_when.2.1 36 = .ok (.aload_n 0, 1) := by decide +kernel
theorem dX5_when_37 : decode mX5_when.2.1 37 = .ok (.getfield 19, 3) := by decide +kernel
theorem dX5_when_40 : decode mX5_when.2.1 40 = .ok (.iload_n 1, 1) := by decide +kernel
theorem dX5_when_41 : decode mX5_when.2.1 41 = .ok (.invokevirtual 155, 3) := by decide +kernel
theorem dX5_when_44 : decode mX5_when.2.1 44 = .ok (.ifCond .eq 5, 3) := by decide +kernel
theorem dX5_when_47 : decode mX5_when.2.1 47 = .ok (.iload_n 2, 1) := by decide +kernel
theorem dX5_when_48 : decode mX5_when.2.1 48 = .ok (.ireturn, 1) := by decide +kernel
theorem dX5_when_49 : decode mX5_when.2.1 49 = .ok (.aload_n 0, 1) := by decide +kernel
theorem dX5_when_50 : decode mX5_when.2.1 50 = .ok (.getfield 19, 3) := by decide +kernel
theorem dX5_when_53 : decode mX5_when.2.1 53 = .ok (.invokevirtual 135, 3) := by decide +kernel
theorem dX5_when_56 : decode mX5_when.2.1 56 = .ok (.iinc 2 1, 3) := by decide +kernel
theorem dX5_when_59 : decode mX5_when.2.1 59 = .ok (.goto (-29), 3) := by decide +kernel
theorem dX5_when_62 : decode mX5_when.2.1 62 = .ok (.aload_n 0, 1) := by decide +kernel
theorem dX5_when_63 : decode mX5_when.2.1 63 = .ok (.iconst 3, 1) := by decide +kernel
theorem dX5_when_64 : decode mX5_when.2.1 64 = .ok (.invokevirtual 57, 3) := by decide +kernel
theorem dX5_when_67 : decode mX5_when.2.1 67 = .ok (.ireturn, 1) := by decide +kernel
theorem dX5_tie_0 : decode mX5_tie.2.1 0 = .ok (.aload_n 0, 1) := by decide +kernel
theorem dX5_tie_1 : decode mX5_tie.2.1 1 = .ok (.getfield 19, 3) := by decide +kernel
theorem dX5_tie_4 : decode mX5_tie.2.1 4 = .ok (.aload_n 0, 1) := by decide +kernel
theorem dX5_tie_5 : decode mX5_tie.2.1 5 = .ok (.getfield 10, 3) := by decide +kernel
theorem dX5_tie_8 : decode mX5_tie.2.1 8 = .ok (.invokevirtual 151, 3) := by decide +kernel
theorem dX5_tie_11 : decode mX5_tie.2.1 11 = .ok (.iconst 0, 1) := by decide +kernel
theorem dX5_tie_12 : decode mX5_tie.2.1 12 = .ok (.istore_n 1, 1) := by decide +kernel
theorem dX5_tie_13 : decode mX5_tie.2.1 13 = .ok (.iload_n 1, 1) := by decide +kernel
theorem dX5_tie_14 : decode mX5_tie.2.1 14 = .ok (.bipush 60, 2) := by decide +kernel
theorem dX5_tie_16 : decode mX5_tie.2.1 16 = .ok (.if_icmp .gt 32, 3) := by decide +kernel
theorem dX5_tie_19 : decode mX5_tie.2.1 19 = .ok (.aload_n 0, 1) := by decide +kernel
theorem dX5_tie_20 : decode mX5_tie.2.1 20 = .ok (.getfield 19, 3) := by decide +kernel
theorem dX5_tie_23 : decode mX5_tie.2.1 23 = .ok (.invokevirtual 110, 3) := by decide +kernel
theorem dX5_tie_26 : decode mX5_tie.2.1 26 = .ok (.invokestatic 158, 3) := by decide +kernel
theorem dX5_tie_29 : decode mX5_tie.2.1 29 = .ok (.iconst 1, 1) := by decide +kernel
theorem dX5_tie_30 : decode mX5_tie.2.1 30 = .ok (.if_icmp .le 5, 3) := by decide +kernel
theorem dX5_tie_33 : decode mX5_tie.2.1 33 = .ok (.iload_n 1, 1) := by decide +kernel
theorem dX5_tie_34 : decode mX5_tie.2.1 34 = .ok (.ireturn, 1) := by decide +kernel
theorem dX5_tie_35 : decode mX5_tie.2.1 35 = .ok (.aload_n 0, 1) := by decide +kernel
theorem dX5_tie_36 : decode mX5_tie.2.1 36 = .ok (.getfield 19, 3) := by decide +kernel
theorem dX5_tie_39 : decode mX5_tie.2.1 39 = .ok (.invokevirtual 135, 3) := by decide +kernel
theorem dX5_tie_42 : decode mX5_tie.2.1 42 = .ok (.iinc 1 1, 3) := by decide +kernel
theorem dX5_tie_45 : decode mX5_tie.2.1 45 = .ok (.goto (-32), 3) := by decide +kernel
theorem dX5_tie_48 : decode mX5_tie.2.1 48 = .ok (.aload_n 0, 1) := by decide +kernel
theorem dX5_tie_49 : decode mX5_tie.2.1 49 = .ok (.iconst 3, 1) := by decide +kernel
theorem dX5_tie_50 : decode mX5_tie.2.1 50 = .ok (.invokevirtual 57, 3) := by decide +kernel
theorem dX5_tie_53 : decode mX5_tie.2.1 53 = .ok (.ireturn, 1) := by decide +kernel
theorem dX5_turns_0 : decode mX5_turns.2.1 0 = .ok (.iload_n 1, 1) := by decide +kernel
theorem dX5_turns_1 : decode mX5_turns.2.1 1 = .ok (.invokestatic 125, 3) := by decide +kernel
theorem dX5_turns_4 : decode mX5_turns.2.1 4 = .ok (.ifCond .ne 9, 3) := by decide +kernel
theorem dX5_turns_7 : decode mX5_turns.2.1 7 = .ok (.aload_n 0, 1) := by decide +kernel
theorem dX5_turns_8 : decode mX5_turns.2.1 8 = .ok (.iconst 0, 1) := by decide +kernel
theorem dX5_turns_9 : decode mX5_turns.2.1 9 = .ok (.invokevirtual 57, 3) := by decide +kernel
theorem dX5_turns_12 : decode mX5_turns.2.1 12 = .ok (.ireturn, 1) := by decide +kernel
theorem dX5_turns_13 : decode mX5_turns.2.1 13 = .ok (.aload_n 0, 1) := by decide +kernel
theorem dX5_turns_14 : decode mX5_turns.2.1 14 = .ok (.getfield 10, 3) := by decide +kernel
theorem dX5_turns_17 : decode mX5_turns.2.1 17 = .ok (.iload_n 1, 1) := by decide +kernel
theorem dX5_turns_18 : decode mX5_turns.2.1 18 = .ok (.invokevirtual 128, 3) := by decide +kernel
theorem dX5_turns_21 : decode mX5_turns.2.1 21 = .ok (.istore_n 2, 1) := by decide +kernel
theorem dX5_turns_22 : decode mX5_turns.2.1 22 = .ok (.aload_n 0, 1) := by decide +kernel
theorem dX5_turns_23 : decode mX5_turns.2.1 23 = .ok (.getfield 19, 3) := by decide +kernel
theorem dX5_turns_26 : decode mX5_turns.2.1 26 = .ok (.aload_n 0, 1) := by decide +kernel
theorem dX5_turns_27 : decode mX5_turns.2.1 27 = .ok (.getfield 10, 3) := by decide +kernel
theorem dX5_turns_30 : decode mX5_turns.2.1 30 = .ok (.invokevirtual 151, 3) := by decide +kernel
theorem dX5_turns_33 : decode mX5_turns.2.1 33 = .ok (.iconst 1, 1) := by decide +kernel
theorem dX5_turns_34 : decode mX5_turns.2.1 34 = .ok (.istore_n 3, 1) := by decide +kernel
theorem dX5_turns_35 : decode mX5_turns.2.1 35 = .ok (.iload_n 3, 1) := by decide +kernel
theorem dX5_turns_36 : decode mX5_turns.2.1 36 = .ok (.bipush 60, 2) := by decide +kernel
theorem dX5_turns_38 : decode mX5_turns.2.1 38 = .ok (.if_icmp .gt 30, 3) := by decide +kernel
theorem dX5_turns_41 : decode mX5_turns.2.1 41 = .ok (.aload_n 0, 1) := by decide +kernel
theorem dX5_turns_42 : decode mX5_turns.2.1 42 = .ok (.getfield 19, 3) := by decide +kernel
theorem dX5_turns_45 : decode mX5_turns.2.1 45 = .ok (.invokevirtual 135, 3) := by decide +kernel
theorem dX5_turns_48 : decode mX5_turns.2.1 48 = .ok (.aload_n 0, 1) := by decide +kernel
theorem dX5_turns_49 : decode mX5_turns.2.1 49 = .ok (.getfield 19, 3) := by decide +kernel
theorem dX5_turns_52 : decode mX5_turns.2.1 52 = .ok (.iload_n 1, 1) := by decide +kernel
theorem dX5_turns_53 : decode mX5_turns.2.1 53 = .ok (.invokevirtual 128, 3) := by decide +kernel
theorem dX5_turns_56 : decode mX5_turns.2.1 56 = .ok (.iload_n 2, 1) := by decide +kernel
theorem dX5_turns_57 : decode mX5_turns.2.1 57 = .ok (.if_icmp .eq 5, 3) := by decide +kernel
theorem dX5_turns_60 : decode mX5_turns.2.1 60 = .ok (.iload_n 3, 1) := by decide +kernel
theorem dX5_turns_61 : decode mX5_turns.2.1 61 = .ok (.ireturn, 1) := by decide +kernel
theorem dX5_turns_62 : decode mX5_turns.2.1 62 = .ok (.iinc 3 1, 3) := by decide +kernel
theorem dX5_turns_65 : decode mX5_turns.2.1 65 = .ok (.goto (-30), 3) := by decide +kernel
theorem dX5_turns_68 : decode mX5_turns.2.1 68 = .ok (.aload_n 0, 1) := by decide +kernel
theorem dX5_turns_69 : decode mX5_turns.2.1 69 = .ok (.iconst 3, 1) := by decide +kernel
theorem dX5_turns_70 : decode mX5_turns.2.1 70 = .ok (.invokevirtual 57, 3) := by decide +kernel
theorem dX5_turns_73 : decode mX5_turns.2.1 73 = .ok (.ireturn, 1) := by decide +kernel
theorem dX5_mostHands_0 : decode mX5_mostHands.2.1 0 = .ok (.aload_n 0, 1) := by decide +kernel
theorem dX5_mostHands_1 : decode mX5_mostHands.2.1 1 = .ok (.getfield 10, 3) := by decide +kernel
theorem dX5_mostHands_4 : decode mX5_mostHands.2.1 4 = .ok (.iload_n 1, 1) := by decide +kernel
theorem dX5_mostHands_5 : decode mX5_mostHands.2.1 5 = .ok (.invokevirtual 78, 3) := by decide +kernel
theorem dX5_mostHands_8 : decode mX5_mostHands.2.1 8 = .ok (.ifCond .ne 9, 3) := by decide +kernel
theorem dX5_mostHands_11 : decode mX5_mostHands.2.1 11 = .ok (.aload_n 0, 1) := by decide +kernel
theorem dX5_mostHands_12 : decode mX5_mostHands.2.1 12 = .ok (.iconst 0, 1) := by decide +kernel
theorem dX5_mostHands_13 : decode mX5_mostHands.2.1 13 = .ok (.invokevirtual 57, 3) := by decide +kernel
theorem dX5_mostHands_16 : decode mX5_mostHands.2.1 16 = .ok (.ireturn, 1) := by decide +kernel
theorem dX5_mostHands_17 : decode mX5_mostHands.2.1 17 = .ok (.aload_n 0, 1) := by decide +kernel
theorem dX5_mostHands_18 : decode mX5_mostHands.2.1 18 = .ok (.getfield 19, 3) := by decide +kernel
theorem dX5_mostHands_21 : decode mX5_mostHands.2.1 21 = .ok (.aload_n 0, 1) := by decide +kernel
theorem dX5_mostHands_22 : decode mX5_mostHands.2.1 22 = .ok (.getfield 10, 3) := by decide +kernel
theorem dX5_mostHands_25 : decode mX5_mostHands.2.1 25 = .ok (.invokevirtual 151, 3) := by decide +kernel
theorem dX5_mostHands_28 : decode mX5_mostHands.2.1 28 = .ok (.getstatic 163, 3) := by decide +kernel
theorem dX5_mostHands_31 : decode mX5_mostHands.2.1 31 = .ok (.iconst 2, 1) := by decide +kernel
theorem dX5_mostHands_32 : decode mX5_mostHands.2.1 32 = .ok (.iaload, 1) := by decide +kernel
theorem dX5_mostHands_33 : decode mX5_mostHands.2.1 33 = .ok (.istore_n 2, 1) := by decide +kernel
theorem dX5_mostHands_34 : decode mX5_mostHands.2.1 34 = .ok (.iload_n 2, 1) := by decide +kernel
theorem dX5_mostHands_35 : decode mX5_mostHands.2.1 35 = .ok (.getstatic 166, 3) := by decide +kernel
theorem dX5_mostHands_38 : decode mX5_mostHands.2.1 38 = .ok (.iconst 2, 1) := by decide +kernel
theorem dX5_mostHands_39 : decode mX5_mostHands.2.1 39 = .ok (.iaload, 1) := by decide +kernel
theorem dX5_mostHands_40 : decode mX5_mostHands.2.1 40 = .ok (.if_icmp .lt 36, 3) := by decide +kernel
theorem dX5_mostHands_43 : decode mX5_mostHands.2.1 43 = .ok (.aload_n 0, 1) := by decide +kernel
theorem dX5_mostHands_44 : decode mX5_mostHands.2.1 44 = .ok (.getfield 19, 3) := by decide +kernel
theorem dX5_mostHands_47 : decode mX5_mostHands.2.1 47 = .ok (.getfield 82, 3) := by decide +kernel
theorem dX5_mostHands_50 : decode mX5_mostHands.2.1 50 = .ok (.iload_n 1, 1) := by decide +kernel
theorem dX5_mostHands_51 : decode mX5_mostHands.2.1 51 = .ok (.aaload, 1) := by decide +kernel
theorem dX5_mostHands_52 : decode mX5_mostHands.2.1 52 = .ok (.iconst 2, 1) := by decide +kernel
theorem dX5_mostHands_53 : decode mX5_mostHands.2.1 53 = .ok (.iload_n 2, 1) := by decide +kernel
theorem dX5_mostHands_54 : decode mX5_mostHands.2.1 54 = .ok (.invokevirtual 103, 3) := by decide +kernel
theorem dX5_mostHands_57 : decode mX5_mostHands.2.1 57 = .ok (.aload_n 0, 1) := by decide +kernel
theorem dX5_mostHands_58 : decode mX5_mostHands.2.1 58 = .ok (.getfield 19, 3) := by decide +kernel
theorem dX5_mostHands_61 : decode mX5_mostHands.2.1 61 = .ok (.iload_n 1, 1) := by decide +kernel
theorem dX5_mostHands_62 : decode mX5_mostHands.2.1 62 = .ok (.invokevirtual 155, 3) := by decide +kernel
theorem dX5_mostHands_65 : decode mX5_mostHands.2.1 65 = .ok (.ifCond .eq 5, 3) := by decide +kernel
theorem dX5_mostHands_68 : decode mX5_mostHands.2.1 68 = .ok (.iload_n 2, 1) := by decide +kernel
theorem dX5_mostHands_69 : decode mX5_mostHands.2.1 69 = .ok (.ireturn, 1) := by decide +kernel
theorem dX5_mostHands_70 : decode mX5_mostHands.2.1 70 = .ok (.iinc 2 (-1), 3) := by decide +kernel
theorem dX5_mostHands_73 : decode mX5_mostHands.2.1 73 = .ok (.goto (-39), 3) := by decide +kernel
theorem dX5_mostHands_76 : decode mX5_mostHands.2.1 76 = .ok (.aload_n 0, 1) := by decide +kernel
theorem dX5_mostHands_77 : decode mX5_mostHands.2.1 77 = .ok (.iconst 3, 1) := by decide +kernel
theorem dX5_mostHands_78 : decode mX5_mostHands.2.1 78 = .ok (.invokevirtual 57, 3) := by decide +kernel
theorem dX5_mostHands_81 : decode mX5_mostHands.2.1 81 = .ok (.ireturn, 1) := by decide +kernel
theorem dX5_fewestHands_0 : decode mX5_fewestHands.2.1 0 = .ok (.aload_n 0, 1) := by decide +kernel
theorem dX5_fewestHands_1 : decode mX5_fewestHands.2.1 1 = .ok (.getfield 10, 3) := by decide +kernel
theorem dX5_fewestHands_4 : decode mX5_fewestHands.2.1 4 = .ok (.iload_n 1, 1) := by decide +kernel
theorem dX5_fewestHands_5 : decode mX5_fewestHands.2.1 5 = .ok (.invokevirtual 78, 3) := by decide +kernel
theorem dX5_fewestHands_8 : decode mX5_fewestHands.2.1 8 = .ok (.ifCond .ne 9, 3) := by decide +kernel
theorem dX5_fewestHands_11 : decode mX5_fewestHands.2.1 11 = .ok (.aload_n 0, 1) := by decide +kernel
theorem dX5_fewestHands_12 : decode mX5_fewestHands.2.1 12 = .ok (.iconst 0, 1) := by decide +kernel
theorem dX5_fewestHands_13 : decode mX5_fewestHands.2.1 13 = .ok (.invokevirtual 57, 3) := by decide +kernel
theorem dX5_fewestHands_16 : decode mX5_fewestHands.2.1 16 = .ok (.ireturn, 1) := by decide +kernel
theorem dX5_fewestHands_17 : decode mX5_fewestHands.2.1 17 = .ok (.aload_n 0, 1) := by decide +kernel
theorem dX5_fewestHands_18 : decode mX5_fewestHands.2.1 18 = .ok (.getfield 19, 3) := by decide +kernel
theorem dX5_fewestHands_21 : decode mX5_fewestHands.2.1 21 = .ok (.aload_n 0, 1) := by decide +kernel
theorem dX5_fewestHands_22 : decode mX5_fewestHands.2.1 22 = .ok (.getfield 10, 3) := by decide +kernel
theorem dX5_fewestHands_25 : decode mX5_fewestHands.2.1 25 = .ok (.invokevirtual 151, 3) := by decide +kernel
theorem dX5_fewestHands_28 : decode mX5_fewestHands.2.1 28 = .ok (.getstatic 166, 3) := by decide +kernel
theorem dX5_fewestHands_31 : decode mX5_fewestHands.2.1 31 = .ok (.iconst 2, 1) := by decide +kernel
theorem dX5_fewestHands_32 : decode mX5_fewestHands.2.1 32 = .ok (.iaload, 1) := by decide +kernel
theorem dX5_fewestHands_33 : decode mX5_fewestHands.2.1 33 = .ok (.istore_n 2, 1) := by decide +kernel
theorem dX5_fewestHands_34 : decode mX5_fewestHands.2.1 34 = .ok (.iload_n 2, 1) := by decide +kernel
theorem dX5_fewestHands_35 : decode mX5_fewestHands.2.1 35 = .ok (.getstatic 163, 3) := by decide +kernel
theorem dX5_fewestHands_38 : decode mX5_fewestHands.2.1 38 = .ok (.iconst 2, 1) := by decide +kernel
theorem dX5_fewestHands_39 : decode mX5_fewestHands.2.1 39 = .ok (.iaload, 1) := by decide +kernel
theorem dX5_fewestHands_40 : decode mX5_fewestHands.2.1 40 = .ok (.if_icmp .gt 39, 3) := by decide +kernel
theorem dX5_fewestHands_43 : decode mX5_fewestHands.2.1 43 = .ok (.aload_n 0, 1) := by decide +kernel
theorem dX5_fewestHands_44 : decode mX5_fewestHands.2.1 44 = .ok (.getfield 19, 3) := by decide +kernel
theorem dX5_fewestHands_47 : decode mX5_fewestHands.2.1 47 = .ok (.getfield 82, 3) := by decide +kernel
theorem dX5_fewestHands_50 : decode mX5_fewestHands.2.1 50 = .ok (.iload_n 1, 1) := by decide +kernel
theorem dX5_fewestHands_51 : decode mX5_fewestHands.2.1 51 = .ok (.aaload, 1) := by decide +kernel
theorem dX5_fewestHands_52 : decode mX5_fewestHands.2.1 52 = .ok (.iconst 2, 1) := by decide +kernel
theorem dX5_fewestHands_53 : decode mX5_fewestHands.2.1 53 = .ok (.iload_n 2, 1) := by decide +kernel
theorem dX5_fewestHands_54 : decode mX5_fewestHands.2.1 54 = .ok (.invokevirtual 103, 3) := by decide +kernel
theorem dX5_fewestHands_57 : decode mX5_fewestHands.2.1 57 = .ok (.aload_n 0, 1) := by decide +kernel
theorem dX5_fewestHands_58 : decode mX5_fewestHands.2.1 58 = .ok (.getfield 19, 3) := by decide +kernel
theorem dX5_fewestHands_61 : decode mX5_fewestHands.2.1 61 = .ok (.invokevirtual 113, 3) := by decide +kernel
theorem dX5_fewestHands_64 : decode mX5_fewestHands.2.1 64 = .ok (.iload_n 1, 1) := by decide +kernel
theorem dX5_fewestHands_65 : decode mX5_fewestHands.2.1 65 = .ok (.invokestatic 169, 3) := by decide +kernel
theorem dX5_fewestHands_68 : decode mX5_fewestHands.2.1 68 = .ok (.ifCond .eq 5, 3) := by decide +kernel
theorem dX5_fewestHands_71 : decode mX5_fewestHands.2.1 71 = .ok (.iload_n 2, 1) := by decide +kernel
theorem dX5_fewestHands_72 : decode mX5_fewestHands.2.1 72 = .ok (.ireturn, 1) := by decide +kernel
theorem dX5_fewestHands_73 : decode mX5_fewestHands.2.1 73 = .ok (.iinc 2 1, 3) := by decide +kernel
theorem dX5_fewestHands_76 : decode mX5_fewestHands.2.1 76 = .ok (.goto (-42), 3) := by decide +kernel
theorem dX5_fewestHands_79 : decode mX5_fewestHands.2.1 79 = .ok (.aload_n 0, 1) := by decide +kernel
theorem dX5_fewestHands_80 : decode mX5_fewestHands.2.1 80 = .ok (.iconst 3, 1) := by decide +kernel
theorem dX5_fewestHands_81 : decode mX5_fewestHands.2.1 81 = .ok (.invokevirtual 57, 3) := by decide +kernel
theorem dX5_fewestHands_84 : decode mX5_fewestHands.2.1 84 = .ok (.ireturn, 1) := by decide +kernel
theorem dX5_lend_0 : decode mX5_lend.2.1 0 = .ok (.aload_n 0, 1) := by decide +kernel
theorem dX5_lend_1 : decode mX5_lend.2.1 1 = .ok (.getfield 10, 3) := by decide +kernel
theorem dX5_lend_4 : decode mX5_lend.2.1 4 = .ok (.iload_n 1, 1) := by decide +kernel
theorem dX5_lend_5 : decode mX5_lend.2.1 5 = .ok (.invokevirtual 78, 3) := by decide +kernel
theorem dX5_lend_8 : decode mX5_lend.2.1 8 = .ok (.ifCond .ne 9, 3) := by decide +kernel
theorem dX5_lend_11 : decode mX5_lend.2.1 11 = .ok (.aload_n 0, 1) := by decide +kernel
theorem dX5_lend_12 : decode mX5_lend.2.1 12 = .ok (.iconst 0, 1) := by decide +kernel
theorem dX5_lend_13 : decode mX5_lend.2.1 13 = .ok (.invokevirtual 57, 3) := by decide +kernel
theorem dX5_lend_16 : decode mX5_lend.2.1 16 = .ok (.ireturn, 1) := by decide +kernel
theorem dX5_lend_17 : decode mX5_lend.2.1 17 = .ok (.iconst 0, 1) := by decide +kernel
theorem dX5_lend_18 : decode mX5_lend.2.1 18 = .ok (.istore_n 2, 1) := by decide +kernel
theorem dX5_lend_19 : decode mX5_lend.2.1 19 = .ok (.iload_n 2, 1) := by decide +kernel
theorem dX5_lend_20 : decode mX5_lend.2.1 20 = .ok (.aload_n 0, 1) := by decide +kernel
theorem dX5_lend_21 : decode mX5_lend.2.1 21 = .ok (.getfield 10, 3) := by decide +kernel
theorem dX5_lend_24 : decode mX5_lend.2.1 24 = .ok (.getfield 172, 3) := by decide +kernel
theorem dX5_lend_27 : decode mX5_lend.2.1 27 = .ok (.if_icmp .ge 50, 3) := by decide +kernel
theorem dX5_lend_30 : decode mX5_lend.2.1 30 = .ok (.iconst 0, 1) := by decide +kernel
theorem dX5_lend_31 : decode mX5_lend.2.1 31 = .ok (.istore_n 3, 1) := by decide +kernel
theorem dX5_lend_32 : decode mX5_lend.2.1 32 = .ok (.iload_n 3, 1) := by decide +kernel
theorem dX5_lend_33 : decode mX5_lend.2.1 33 = .ok (.aload_n 0, 1) := by decide +kernel
theorem dX5_lend_34 : decode mX5_lend.2.1 34 = .ok (.getfield 10, 3) := by decide +kernel
theorem dX5_lend_37 : decode mX5_lend.2.1 37 = .ok (.getfield 172, 3) := by decide +kernel
theorem dX5_lend_40 : decode mX5_lend.2.1 40 = .ok (.if_icmp .ge 31, 3) := by decide +kernel
theorem dX5_lend_43 : decode mX5_lend.2.1 43 = .ok (.iload_n 2, 1) := by decide +kernel
theorem dX5_lend_44 : decode mX5_lend.2.1 44 = .ok (.iload_n 3, 1) := by decide +kernel
theorem dX5_lend_45 : decode mX5_lend.2.1 45 = .ok (.if_icmp .eq 20, 3) := by decide +kernel
theorem dX5_lend_48 : decode mX5_lend.2.1 48 = .ok (.aload_n 0, 1) := by decide +kernel
theorem dX5_lend_49 : decode mX5_lend.2.1 49 = .ok (.iload_n 1, 1) := by decide +kernel
theorem dX5_lend_50 : decode mX5_lend.2.1 50 = .ok (.iload_n 2, 1) := by decide +kernel
theorem dX5_lend_51 : decode mX5_lend.2.1 51 = .ok (.iload_n 3, 1) := by decide +kernel
theorem dX5_lend_52 : decode mX5_lend.2.1 52 = .ok (.invokevirtual 175, 3) := by decide +kernel
theorem dX5_lend_55 : decode mX5_lend.2.1 55 = .ok (.ifCond .eq 10, 3) := by decide +kernel
theorem dX5_lend_58 : decode mX5_lend.2.1 58 = .ok (.bipush 8, 2) := by decide +kernel
theorem dX5_lend_60 : decode mX5_lend.2.1 60 = .ok (.iload_n 2, 1) := by decide +kernel
theorem dX5_lend_61 : decode mX5_lend.2.1 61 = .ok (.imul, 1) := by decide +kernel
theorem dX5_lend_62 : decode mX5_lend.2.1 62 = .ok (.iload_n 3, 1) := by decide +kernel
theorem dX5_lend_63 : decode mX5_lend.2.1 63 = .ok (.iadd, 1) := by decide +kernel
theorem dX5_lend_64 : decode mX5_lend.2.1 64 = .ok (.ireturn, 1) := by decide +kernel
theorem dX5_lend_65 : decode mX5_lend.2.1 65 = .ok (.iinc 3 1, 3) := by decide +kernel
theorem dX5_lend_68 : decode mX5_lend.2.1 68 = .ok (.goto (-36), 3) := by decide +kernel
theorem dX5_lend_71 : decode mX5_lend.2.1 71 = .ok (.iinc 2 1, 3) := by decide +kernel
theorem dX5_lend_74 : decode mX5_lend.2.1 74 = .ok (.goto (-55), 3) := by decide +kernel
theorem dX5_lend_77 : decode mX5_lend.2.1 77 = .ok (.aload_n 0, 1) := by decide +kernel
theorem dX5_lend_78 : decode mX5_lend.2.1 78 = .ok (.iconst 3, 1) := by decide +kernel
theorem dX5_lend_79 : decode mX5_lend.2.1 79 = .ok (.invokevirtual 57, 3) := by decide +kernel
theorem dX5_lend_82 : decode mX5_lend.2.1 82 = .ok (.ireturn, 1) := by decide +kernel
theorem dX5_isLatestIfLent_0 : decode mX5_isLatestIfLent.2.1 0 = .ok (.aload_n 0, 1) := by decide +kernel
theorem dX5_isLatestIfLent_1 : decode mX5_isLatestIfLent.2.1 1 = .ok (.getfield 19, 3) := by decide +kernel
theorem dX5_isLatestIfLent_4 : decode mX5_isLatestIfLent.2.1 4 = .ok (.aload_n 0, 1) := by decide +kernel
theorem dX5_isLatestIfLent_5 : decode mX5_isLatestIfLent.2.1 5 = .ok (.getfield 10, 3) := by decide +kernel
theorem dX5_isLatestIfLent_8 : decode mX5_isLatestIfLent.2.1 8 = .ok (.invokevirtual 151, 3) := by decide +kernel
theorem dX5_isLatestIfLent_11 : decode mX5_isLatestIfLent.2.1 11 = .ok (.aload_n 0, 1) := by decide +kernel
theorem dX5_isLatestIfLent_12 : decode mX5_isLatestIfLent.2.1 12 = .ok (.getfield 19, 3) := by decide +kernel
theorem dX5_isLatestIfLent_15 : decode mX5_isLatestIfLent.2.1 15 = .ok (.getfield 82, 3) := by decide +kernel
theorem dX5_isLatestIfLent_18 : decode mX5_isLatestIfLent.2.1 18 = .ok (.iload_n 2, 1) := by decide +kernel
theorem dX5_isLatestIfLent_19 : decode mX5_isLatestIfLent.2.1 19 = .ok (.aaload, 1) := by decide +kernel
theorem dX5_isLatestIfLent_20 : decode mX5_isLatestIfLent.2.1 20 = .ok (.astore 4, 2) := by decide +kernel
theorem dX5_isLatestIfLent_22 : decode mX5_isLatestIfLent.2.1 22 = .ok (.aload_n 0, 1) := by decide +kernel
theorem dX5_isLatestIfLent_23 : decode mX5_isLatestIfLent.2.1 23 = .ok (.getfield 19, 3) := by decide +kernel
theorem dX5_isLatestIfLent_26 : decode mX5_isLatestIfLent.2.1 26 = .ok (.getfield 82, 3) := by decide +kernel
theorem dX5_isLatestIfLent_29 : decode mX5_isLatestIfLent.2.1 29 = .ok (.iload_n 3, 1) := by decide +kernel
theorem dX5_isLatestIfLent_30 : decode mX5_isLatestIfLent.2.1 30 = .ok (.aaload, 1) := by decide +kernel
theorem dX5_isLatestIfLent_31 : decode mX5_isLatestIfLent.2.1 31 = .ok (.astore 5, 2) := by decide +kernel
theorem dX5_isLatestIfLent_33 : decode mX5_isLatestIfLent.2.1 33 = .ok (.aload 4, 2) := by decide +kernel
theorem dX5_isLatestIfLent_35 : decode mX5_isLatestIfLent.2.1 35 = .ok (.getfield 178, 3) := by decide +kernel
theorem dX5_isLatestIfLent_38 : decode mX5_isLatestIfLent.2.1 38 = .ok (.getstatic 166, 3) := by decide +kernel
theorem dX5_isLatestIfLent_41 : decode mX5_isLatestIfLent.2.1 41 = .ok (.iconst 2, 1) := by decide +kernel
theorem dX5_isLatestIfLent_42 : decode mX5_isLatestIfLent.2.1 42 = .ok (.iaload, 1) := by decide +kernel
theorem dX5_isLatestIfLent_43 : decode mX5_isLatestIfLent.2.1 43 = .ok (.if_icmp .le 16, 3) := by decide +kernel
theorem dX5_isLatestIfLent_46 : decode mX5_isLatestIfLent.2.1 46 = .ok (.aload 5, 2) := by decide +kernel
theorem dX5_isLatestIfLent_48 : decode mX5_isLatestIfLent.2.1 48 = .ok (.getfield 178, 3) := by decide +kernel
theorem dX5_isLatestIfLent_51 : decode mX5_isLatestIfLent.2.1 51 = .ok (.getstatic 163, 3) := by decide +kernel
theorem dX5_isLatestIfLent_54 : decode mX5_isLatestIfLent.2.1 54 = .ok (.iconst 2, 1) := by decide +kernel
theorem dX5_isLatestIfLent_55 : decode mX5_isLatestIfLent.2.1 55 = .ok (.iaload, 1) := by decide +kernel
theorem dX5_isLatestIfLent_56 : decode mX5_isLatestIfLent.2.1 56 = .ok (.if_icmp .lt 5, 3) := by decide +kernel
theorem dX5_isLatestIfLent_59 : decode mX5_isLatestIfLent.2.1 59 = .ok (.iconst 0, 1) := by decide +kernel
theorem dX5_isLatestIfLent_60 : decode mX5_isLatestIfLent.2.1 60 = .ok (.ireturn, 1) := by decide +kernel
theorem dX5_isLatestIfLent_61 : decode mX5_isLatestIfLent.2.1 61 = .ok (.aload 4, 2) := by decide +kernel
theorem dX5_isLatestIfLent_63 : decode mX5_isLatestIfLent.2.1 63 = .ok (.iconst 2, 1) := by decide +kernel
theorem dX5_isLatestIfLent_64 : decode mX5_isLatestIfLent.2.1 64 = .ok (.aload 4, 2) := by decide +kernel
theorem dX5_isLatestIfLent_66 : decode mX5_isLatestIfLent.2.1 66 = .ok (.getfield 178, 3) := by decide +kernel
theorem dX5_isLatestIfLent_69 : decode mX5_isLatestIfLent.2.1 69 = .ok (.iconst 1, 1) := by decide +kernel
theorem dX5_isLatestIfLent_70 : decode mX5_isLatestIfLent.2.1 70 = .ok (.isub, 1) := by decide +kernel
theorem dX5_isLatestIfLent_71 : decode mX5_isLatestIfLent.2.1 71 = .ok (.invokevirtual 103, 3) := by decide +kernel
theorem dX5_isLatestIfLent_74 : decode mX5_isLatestIfLent.2.1 74 = .ok (.aload 5, 2) := by decide +kernel
theorem dX5_isLatestIfLent_76 : decode mX5_isLatestIfLent.2.1 76 = .ok (.iconst 2, 1) := by decide +kernel
theorem dX5_isLatestIfLent_77 : decode mX5_isLatestIfLent.2.1 77 = .ok (.aload 5, 2) := by decide +kernel
theorem dX5_isLatestIfLent_79 : decode mX5_isLatestIfLent.2.1 79 = .ok (.getfield 178, 3) := by decide +kernel
theorem dX5_isLatestIfLent_82 : decode mX5_isLatestIfLent.2.1 82 = .ok (.iconst 1, 1) := by decide +kernel
theorem dX5_isLatestIfLent_83 : decode mX5_isLatestIfLent.2.1 83 = .ok (.iadd, 1) := by decide +kernel
theorem dX5_isLatestIfLent_84 : decode mX5_isLatestIfLent.2.1 84 = .ok (.invokevirtual 103, 3) := by decide +kernel
theorem dX5_isLatestIfLent_87 : decode mX5_isLatestIfLent.2.1 87 = .ok (.aload_n 0, 1) := by decide +kernel
theorem dX5_isLatestIfLent_88 : decode mX5_isLatestIfLent.2.1 88 = .ok (.getfield 19, 3) := by decide +kernel
theorem dX5_isLatestIfLent_91 : decode mX5_isLatestIfLent.2.1 91 = .ok (.iload_n 1, 1) := by decide +kernel
theorem dX5_isLatestIfLent_92 : decode mX5_isLatestIfLent.2.1 92 = .ok (.invokevirtual 155, 3) := by decide +kernel
theorem dX5_isLatestIfLent_95 : decode mX5_isLatestIfLent.2.1 95 = .ok (.ireturn, 1) := by decide +kernel
theorem dX5_kinds_0 : decode mX5_kinds.2.1 0 = .ok (.aload_n 0, 1) := by decide +kernel
theorem dX5_kinds_1 : decode mX5_kinds.2.1 1 = .ok (.getfield 10, 3) := by decide +kernel
theorem dX5_kinds_4 : decode mX5_kinds.2.1 4 = .ok (.iload_n 1, 1) := by decide +kernel
theorem dX5_kinds_5 : decode mX5_kinds.2.1 5 = .ok (.invokevirtual 78, 3) := by decide +kernel
theorem dX5_kinds_8 : decode mX5_kinds.2.1 8 = .ok (.ifCond .ne 9, 3) := by decide +kernel
theorem dX5_kinds_11 : decode mX5_kinds.2.1 11 = .ok (.aload_n 0, 1) := by decide +kernel
theorem dX5_kinds_12 : decode mX5_kinds.2.1 12 = .ok (.iconst 0, 1) := by decide +kernel
theorem dX5_kinds_13 : decode mX5_kinds.2.1 13 = .ok (.invokevirtual 57, 3) := by decide +kernel
theorem dX5_kinds_16 : decode mX5_kinds.2.1 16 = .ok (.ireturn, 1) := by decide +kernel
theorem dX5_kinds_17 : decode mX5_kinds.2.1 17 = .ok (.aload_n 0, 1) := by decide +kernel
theorem dX5_kinds_18 : decode mX5_kinds.2.1 18 = .ok (.getfield 19, 3) := by decide +kernel
theorem dX5_kinds_21 : decode mX5_kinds.2.1 21 = .ok (.aload_n 0, 1) := by decide +kernel
theorem dX5_kinds_22 : decode mX5_kinds.2.1 22 = .ok (.getfield 10, 3) := by decide +kernel
theorem dX5_kinds_25 : decode mX5_kinds.2.1 25 = .ok (.invokevirtual 151, 3) := by decide +kernel
theorem dX5_kinds_28 : decode mX5_kinds.2.1 28 = .ok (.iconst 0, 1) := by decide +kernel
theorem dX5_kinds_29 : decode mX5_kinds.2.1 29 = .ok (.istore_n 2, 1) := by decide +kernel
theorem dX5_kinds_30 : decode mX5_kinds.2.1 30 = .ok (.iconst 0, 1) := by decide +kernel
theorem dX5_kinds_31 : decode mX5_kinds.2.1 31 = .ok (.istore_n 3, 1) := by decide +kernel
theorem dX5_kinds_32 : decode mX5_kinds.2.1 32 = .ok (.iload_n 3, 1) := by decide +kernel
theorem dX5_kinds_33 : decode mX5_kinds.2.1 33 = .ok (.bipush 7, 2) := by decide +kernel
theorem dX5_kinds_35 : decode mX5_kinds.2.1 35 = .ok (.if_icmp .ge 40, 3) := by decide +kernel
theorem dX5_kinds_38 : decode mX5_kinds.2.1 38 = .ok (.aload_n 0, 1) := by decide +kernel
theorem dX5_kinds_39 : decode mX5_kinds.2.1 39 = .ok (.getfield 19, 3) := by decide +kernel
theorem dX5_kinds_42 : decode mX5_kinds.2.1 42 = .ok (.getfield 82, 3) := by decide +kernel
theorem dX5_kinds_45 : decode mX5_kinds.2.1 45 = .ok (.iload_n 1, 1) := by decide +kernel
theorem dX5_kinds_46 : decode mX5_kinds.2.1 46 = .ok (.aaload, 1) := by decide +kernel
theorem dX5_kinds_47 : decode mX5_kinds.2.1 47 = .ok (.iconst 0, 1) := by decide +kernel
theorem dX5_kinds_48 : decode mX5_kinds.2.1 48 = .ok (.iload_n 3, 1) := by decide +kernel
theorem dX5_kinds_49 : decode mX5_kinds.2.1 49 = .ok (.invokevirtual 103, 3) := by decide +kernel
theorem dX5_kinds_52 : decode mX5_kinds.2.1 52 = .ok (.aload_n 0, 1) := by decide +kernel
theorem dX5_kinds_53 : decode mX5_kinds.2.1 53 = .ok (.getfield 19, 3) := by decide +kernel
theorem dX5_kinds_56 : decode mX5_kinds.2.1 56 = .ok (.iload_n 1, 1) := by decide +kernel
theorem dX5_kinds_57 : decode mX5_kinds.2.1 57 = .ok (.invokevirtual 155, 3) := by decide +kernel
theorem dX5_kinds_60 : decode mX5_kinds.2.1 60 = .ok (.ifCond .eq 9, 3) := by decide +kernel
theorem dX5_kinds_63 : decode mX5_kinds.2.1 63 = .ok (.iload_n 2, 1) := by decide +kernel
theorem dX5_kinds_64 : decode mX5_kinds.2.1 64 = .ok (.iconst 1, 1) := by decide +kernel
theorem dX5_kinds_65 : decode mX5_kinds.2.1 65 = .ok (.iload_n 3, 1) := by decide +kernel
theorem dX5_kinds_66 : decode mX5_kinds.2.1 66 = .ok (.ishl, 1) := by decide +kernel
theorem dX5_kinds_67 : decode mX5_kinds.2.1 67 = .ok (.ior, 1) := by decide +kernel
theorem dX5_kinds_68 : decode mX5_kinds.2.1 68 = .ok (.istore_n 2, 1) := by decide +kernel
theorem dX5_kinds_69 : decode mX5_kinds.2.1 69 = .ok (.iinc 3 1, 3) := by decide +kernel
theorem dX5_kinds_72 : decode mX5_kinds.2.1 72 = .ok (.goto (-40), 3) := by decide +kernel
theorem dX5_kinds_75 : decode mX5_kinds.2.1 75 = .ok (.iload_n 2, 1) := by decide +kernel
theorem dX5_kinds_76 : decode mX5_kinds.2.1 76 = .ok (.ireturn, 1) := by decide +kernel
theorem dX5_wetFor_0 : decode mX5_wetFor.2.1 0 = .ok (.aload_n 0, 1) := by decide +kernel
theorem dX5_wetFor_1 : decode mX5_wetFor.2.1 1 = .ok (.getfield 10, 3) := by decide +kernel
theorem dX5_wetFor_4 : decode mX5_wetFor.2.1 4 = .ok (.iload_n 1, 1) := by decide +kernel
theorem dX5_wetFor_5 : decode mX5_wetFor.2.1 5 = .ok (.invokevirtual 78, 3) := by decide +kernel
theorem dX5_wetFor_8 : decode mX5_wetFor.2.1 8 = .ok (.ifCond .ne 9, 3) := by decide +kernel
theorem dX5_wetFor_11 : decode mX5_wetFor.2.1 11 = .ok (.aload_n 0, 1) := by decide +kernel
theorem dX5_wetFor_12 : decode mX5_wetFor.2.1 12 = .ok (.iconst 0, 1) := by decide +kernel
theorem dX5_wetFor_13 : decode mX5_wetFor.2.1 13 = .ok (.invokevirtual 57, 3) := by decide +kernel
theorem dX5_wetFor_16 : decode mX5_wetFor.2.1 16 = .ok (.ireturn, 1) := by decide +kernel
theorem dX5_wetFor_17 : decode mX5_wetFor.2.1 17 = .ok (.aload_n 0, 1) := by decide +kernel
theorem dX5_wetFor_18 : decode mX5_wetFor.2.1 18 = .ok (.getfield 19, 3) := by decide +kernel
theorem dX5_wetFor_21 : decode mX5_wetFor.2.1 21 = .ok (.aload_n 0, 1) := by decide +kernel
theorem dX5_wetFor_22 : decode mX5_wetFor.2.1 22 = .ok (.getfield 10, 3) := by decide +kernel
theorem dX5_wetFor_25 : decode mX5_wetFor.2.1 25 = .ok (.invokevirtual 151, 3) := by decide +kernel
theorem dX5_wetFor_28 : decode mX5_wetFor.2.1 28 = .ok (.iconst 0, 1) := by decide +kernel
theorem dX5_wetFor_29 : decode mX5_wetFor.2.1 29 = .ok (.istore_n 2, 1) := by decide +kernel
theorem dX5_wetFor_30 : decode mX5_wetFor.2.1 30 = .ok (.iload_n 2, 1) := by decide +kernel
theorem dX5_wetFor_31 : decode mX5_wetFor.2.1 31 = .ok (.bipush 99, 2) := by decide +kernel
theorem dX5_wetFor_33 : decode mX5_wetFor.2.1 33 = .ok (.if_icmp .gt 32, 3) := by decide +kernel
theorem dX5_wetFor_36 : decode mX5_wetFor.2.1 36 = .ok (.aload_n 0, 1) := by decide +kernel
theorem dX5_wetFor_37 : decode mX5_wetFor.2.1 37 = .ok (.getfield 19, 3) := by decide +kernel
theorem dX5_wetFor_40 : decode mX5_wetFor.2.1 40 = .ok (.getfield 61, 3) := by decide +kernel
theorem dX5_wetFor_43 : decode mX5_wetFor.2.1 43 = .ok (.iconst 0, 1) := by decide +kernel
theorem dX5_wetFor_44 : decode mX5_wetFor.2.1 44 = .ok (.iload_n 2, 1) := by decide +kernel
theorem dX5_wetFor_45 : decode mX5_wetFor.2.1 45 = .ok (.iastore, 1) := by decide +kernel
theorem dX5_wetFor_46 : decode mX5_wetFor.2.1 46 = .ok (.aload_n 0, 1) := by decide +kernel
theorem dX5_wetFor_47 : decode mX5_wetFor.2.1 47 = .ok (.getfield 19, 3) := by decide +kernel
theorem dX5_wetFor_50 : decode mX5_wetFor.2.1 50 = .ok (.iload_n 1, 1) := by decide +kernel
theorem dX5_wetFor_51 : decode mX5_wetFor.2.1 51 = .ok (.invokevirtual 155, 3) := by decide +kernel
theorem dX5_wetFor_54 : decode mX5_wetFor.2.1 54 = .ok (.ifCond .eq 5, 3) := by decide +kernel
theorem dX5_wetFor_57 : decode mX5_wetFor.2.1 57 = .ok (.iload_n 2, 1) := by decide +kernel
theorem dX5_wetFor_58 : decode mX5_wetFor.2.1 58 = .ok (.ireturn, 1) := by decide +kernel
theorem dX5_wetFor_59 : decode mX5_wetFor.2.1 59 = .ok (.iinc 2 1, 3) := by decide +kernel
theorem dX5_wetFor_62 : decode mX5_wetFor.2.1 62 = .ok (.goto (-32), 3) := by decide +kernel
theorem dX5_wetFor_65 : decode mX5_wetFor.2.1 65 = .ok (.aload_n 0, 1) := by decide +kernel
theorem dX5_wetFor_66 : decode mX5_wetFor.2.1 66 = .ok (.iconst 3, 1) := by decide +kernel
theorem dX5_wetFor_67 : decode mX5_wetFor.2.1 67 = .ok (.invokevirtual 57, 3) := by decide +kernel
theorem dX5_wetFor_70 : decode mX5_wetFor.2.1 70 = .ok (.ireturn, 1) := by decide +kernel
theorem dX5_tell_0 : decode mX5_tell.2.1 0 = .ok (.iload_n 1, 1) := by decide +kernel
theorem dX5_tell_1 : decode mX5_tell.2.1 1 = .ok (.invokestatic 125, 3) := by decide +kernel
theorem dX5_tell_4 : decode mX5_tell.2.1 4 = .ok (.ifCond .eq 11, 3) := by decide +kernel
theorem dX5_tell_7 : decode mX5_tell.2.1 7 = .ok (.iconst 3, 1) := by decide +kernel
theorem dX5_tell_8 : decode mX5_tell.2.1 8 = .ok (.iload_n 2, 1) := by decide +kernel
theorem dX5_tell_9 : decode mX5_tell.2.1 9 = .ok (.invokestatic 64, 3) := by decide +kernel
theorem dX5_tell_12 : decode mX5_tell.2.1 12 = .ok (.ifCond .ne 9, 3) := by decide +kernel
theorem dX5_tell_15 : decode mX5_tell.2.1 15 = .ok (.aload_n 0, 1) := by decide +kernel
theorem dX5_tell_16 : decode mX5_tell.2.1 16 = .ok (.iconst 0, 1) := by decide +kernel
theorem dX5_tell_17 : decode mX5_tell.2.1 17 = .ok (.invokevirtual 57, 3) := by decide +kernel
theorem dX5_tell_20 : decode mX5_tell.2.1 20 = .ok (.ireturn, 1) := by decide +kernel
theorem dX5_tell_21 : decode mX5_tell.2.1 21 = .ok (.aload_n 0, 1) := by decide +kernel
theorem dX5_tell_22 : decode mX5_tell.2.1 22 = .ok (.getfield 19, 3) := by decide +kernel
theorem dX5_tell_25 : decode mX5_tell.2.1 25 = .ok (.aload_n 0, 1) := by decide +kernel
theorem dX5_tell_26 : decode mX5_tell.2.1 26 = .ok (.getfield 10, 3) := by decide +kernel
theorem dX5_tell_29 : decode mX5_tell.2.1 29 = .ok (.invokevirtual 151, 3) := by decide +kernel
theorem dX5_tell_32 : decode mX5_tell.2.1 32 = .ok (.aload_n 0, 1) := by decide +kernel
theorem dX5_tell_33 : decode mX5_tell.2.1 33 = .ok (.getfield 10, 3) := by decide +kernel
theorem dX5_tell_36 : decode mX5_tell.2.1 36 = .ok (.invokevirtual 110, 3) := by decide +kernel
theorem dX5_tell_39 : decode mX5_tell.2.1 39 = .ok (.istore_n 3, 1) := by decide +kernel
theorem dX5_tell_40 : decode mX5_tell.2.1 40 = .ok (.iconst (-1), 1) := by decide +kernel
theorem dX5_tell_41 : decode mX5_tell.2.1 41 = .ok (.istore 4, 2) := by decide +kernel
theorem dX5_tell_43 : decode mX5_tell.2.1 43 = .ok (.iconst 0, 1) := by decide +kernel
theorem dX5_tell_44 : decode mX5_tell.2.1 44 = .ok (.istore 5, 2) := by decide +kernel
theorem dX5_tell_46 : decode mX5_tell.2.1 46 = .ok (.iload 5, 2) := by decide +kernel
theorem dX5_tell_48 : decode mX5_tell.2.1 48 = .ok (.iconst 1, 1) := by decide +kernel
theorem dX5_tell_49 : decode mX5_tell.2.1 49 = .ok (.aload_n 0, 1) := by decide +kernel
theorem dX5_tell_50 : decode mX5_tell.2.1 50 = .ok (.getfield 10, 3) := by decide +kernel
theorem dX5_tell_53 : decode mX5_tell.2.1 53 = .ok (.getfield 172, 3) := by decide +kernel
theorem dX5_tell_56 : decode mX5_tell.2.1 56 = .ok (.ishl, 1) := by decide +kernel
theorem dX5_tell_57 : decode mX5_tell.2.1 57 = .ok (.if_icmp .ge 53, 3) := by decide +kernel
theorem dX5_tell_60 : decode mX5_tell.2.1 60 = .ok (.iload 4, 2) := by decide +kernel
theorem dX5_tell_62 : decode mX5_tell.2.1 62 = .ok (.ifCond .lt 19, 3) := by decide +kernel
theorem dX5_tell_65 : decode mX5_tell.2.1 65 = .ok (.iload 5, 2) := by decide +kernel
theorem dX5_tell_67 : decode mX5_tell.2.1 67 = .ok (.invokestatic 158, 3) := by decide +kernel
theorem dX5_tell_70 : decode mX5_tell.2.1 70 = .ok (.iload 4, 2) := by decide +kernel
theorem dX5_tell_72 : decode mX5_tell.2.1 72 = .ok (.invokestatic 158, 3) := by decide +kernel
theorem dX5_tell_75 : decode mX5_tell.2.1 75 = .ok (.if_icmp .lt 6, 3) := by decide +kernel
theorem dX5_tell_78 : decode mX5_tell.2.1 78 = .ok (.goto 26, 3) := by decide +kernel
theorem dX5_tell_81 : decode mX5_tell.2.1 81 = .ok (.aload_n 0, 1) := by decide +kernel
theorem dX5_tell_82 : decode mX5_tell.2.1 82 = .ok (.iload 5, 2) := by decide +kernel
theorem dX5_tell_84 : decode mX5_tell.2.1 84 = .ok (.iload_n 2, 1) := by decide +kernel
theorem dX5_tell_85 : decode mX5_tell.2.1 85 = .ok (.invokevirtual 181, 3) := by decide +kernel
theorem dX5_tell_88 : decode mX5_tell.2.1 88 = .ok (.aload_n 0, 1) := by decide +kernel
theorem dX5_tell_89 : decode mX5_tell.2.1 89 = .ok (.getfield 19, 3) := by decide +kernel
theorem dX5_tell_92 : decode mX5_tell.2.1 92 = .ok (.iload_n 3, 1) := by decide +kernel
theorem dX5_tell_93 : decode mX5_tell.2.1 93 = .ok (.invokevirtual 184, 3) := by decide +kernel
theorem dX5_tell_96 : decode mX5_tell.2.1 96 = .ok (.iload_n 1, 1) := by decide +kernel
theorem dX5_tell_97 : decode mX5_tell.2.1 97 = .ok (.if_icmp .lt 7, 3) := by decide +kernel
theorem dX5_tell_100 : decode mX5_tell.2.1 100 = .ok (.iload 5, 2) := by decide +kernel
theorem dX5_tell_102 : decode mX5_tell.2.1 102 = .ok (.istore 4, 2) := by decide +kernel
theorem dX5_tell_104 : decode mX5_tell.2.1 104 = .ok (.iinc 5 1, 3) := by decide +kernel
theorem dX5_tell_107 : decode mX5_tell.2.1 107 = .ok (.goto (-61), 3) := by decide +kernel
theorem dX5_tell_110 : decode mX5_tell.2.1 110 = .ok (.iload 4, 2) := by decide +kernel
theorem dX5_tell_112 : decode mX5_tell.2.1 112 = .ok (.ifCond .lt 8, 3) := by decide +kernel
theorem dX5_tell_115 : decode mX5_tell.2.1 115 = .ok (.iload 4, 2) := by decide +kernel
theorem dX5_tell_117 : decode mX5_tell.2.1 117 = .ok (.goto 8, 3) := by decide +kernel
theorem dX5_tell_120 : decode mX5_tell.2.1 120 = .ok (.aload_n 0, 1) := by decide +kernel
theorem dX5_tell_121 : decode mX5_tell.2.1 121 = .ok (.iconst 3, 1) := by decide +kernel
theorem dX5_tell_122 : decode mX5_tell.2.1 122 = .ok (.invokevirtual 57, 3) := by decide +kernel
theorem dX5_tell_125 : decode mX5_tell.2.1 125 = .ok (.ireturn, 1) := by decide +kernel
theorem dX5_tryOpinion_0 : decode mX5_tryOpinion.2.1 0 = .ok (.iconst 0, 1) := by decide +kernel
theorem dX5_tryOpinion_1 : decode mX5_tryOpinion.2.1 1 = .ok (.istore_n 3, 1) := by decide +kernel
theorem dX5_tryOpinion_2 : decode mX5_tryOpinion.2.1 2 = .ok (.iload_n 3, 1) := by decide +kernel
theorem dX5_tryOpinion_3 : decode mX5_tryOpinion.2.1 3 = .ok (.aload_n 0, 1) := by decide +kernel
theorem dX5_tryOpinion_4 : decode mX5_tryOpinion.2.1 4 = .ok (.getfield 10, 3) := by decide +kernel
theorem dX5_tryOpinion_7 : decode mX5_tryOpinion.2.1 7 = .ok (.getfield 172, 3) := by decide +kernel
theorem dX5_tryOpinion_10 : decode mX5_tryOpinion.2.1 10 = .ok (.if_icmp .ge 45, 3) := by decide +kernel
theorem dX5_tryOpinion_13 : decode mX5_tryOpinion.2.1 13 = .ok (.aload_n 0, 1) := by decide +kernel
theorem dX5_tryOpinion_14 : decode mX5_tryOpinion.2.1 14 = .ok (.getfield 19, 3) := by decide +kernel
theorem dX5_tryOpinion_17 : decode mX5_tryOpinion.2.1 17 = .ok (.getfield 82, 3) := by decide +kernel
theorem dX5_tryOpinion_20 : decode mX5_tryOpinion.2.1 20 = .ok (.iload_n 3, 1) := by decide +kernel
theorem dX5_tryOpinion_21 : decode mX5_tryOpinion.2.1 21 = .ok (.aaload, 1) := by decide +kernel
theorem dX5_tryOpinion_22 : decode mX5_tryOpinion.2.1 22 = .ok (.iload_n 1, 1) := by decide +kernel
theorem dX5_tryOpinion_23 : decode mX5_tryOpinion.2.1 23 = .ok (.iload_n 3, 1) := by decide +kernel
theorem dX5_tryOpinion_24 : decode mX5_tryOpinion.2.1 24 = .ok (.invokestatic 169, 3) := by decide +kernel
theorem dX5_tryOpinion_27 : decode mX5_tryOpinion.2.1 27 = .ok (.ifCond .eq 7, 3) := by decide +kernel
theorem dX5_tryOpinion_30 : decode mX5_tryOpinion.2.1 30 = .ok (.iload_n 2, 1) := by decide +kernel
theorem dX5_tryOpinion_31 : decode mX5_tryOpinion.2.1 31 = .ok (.goto 15, 3) := by decide +kernel
theorem dX5_tryOpinion_34 : decode mX5_tryOpinion.2.1 34 = .ok (.aload_n 0, 1) := by decide +kernel
theorem dX5_tryOpinion_35 : decode mX5_tryOpinion.2.1 35 = .ok (.getfield 10, 3) := by decide +kernel
theorem dX5_tryOpinion_38 : decode mX5_tryOpinion.2.1 38 = .ok (.getfield 82, 3) := by decide +kernel
theorem dX5_tryOpinion_41 : decode mX5_tryOpinion.2.1 41 = .ok (.iload_n 3, 1) := by decide +kernel
theorem dX5_tryOpinion_42 : decode mX5_tryOpinion.2.1 42 = .ok (.aaload, 1) := by decide +kernel
theorem dX5_tryOpinion_43 : decode mX5_tryOpinion.2.1 43 = .ok (.getfield 187, 3) := by decide +kernel
theorem dX5_tryOpinion_46 : decode mX5_tryOpinion.2.1 46 = .ok (.putfield 187, 3) := by decide +kernel
theorem dX5_tryOpinion_49 : decode mX5_tryOpinion.2.1 49 = .ok (.iinc 3 1, 3) := by decide +kernel
theorem dX5_tryOpinion_52 : decode mX5_tryOpinion.2.1 52 = .ok (.goto (-50), 3) := by decide +kernel
theorem dX5_tryOpinion_55 : decode mX5_tryOpinion.2.1 55 = .ok (.return_, 1) := by decide +kernel
theorem dX5_voice_0 : decode mX5_voice.2.1 0 = .ok (.aload_n 0, 1) := by decide +kernel
theorem dX5_voice_1 : decode mX5_voice.2.1 1 = .ok (.getfield 10, 3) := by decide +kernel
theorem dX5_voice_4 : decode mX5_voice.2.1 4 = .ok (.getfield 172, 3) := by decide +kernel
theorem dX5_voice_7 : decode mX5_voice.2.1 7 = .ok (.ifCond .ne 9, 3) := by decide +kernel
theorem dX5_voice_10 : decode mX5_voice.2.1 10 = .ok (.aload_n 0, 1) := by decide +kernel
theorem dX5_voice_11 : decode mX5_voice.2.1 11 = .ok (.iconst 3, 1) := by decide +kernel
theorem dX5_voice_12 : decode mX5_voice.2.1 12 = .ok (.invokevirtual 57, 3) := by decide +kernel
theorem dX5_voice_15 : decode mX5_voice.2.1 15 = .ok (.ireturn, 1) := by decide +kernel
theorem dX5_voice_16 : decode mX5_voice.2.1 16 = .ok (.aload_n 0, 1) := by decide +kernel
theorem dX5_voice_17 : decode mX5_voice.2.1 17 = .ok (.getfield 10, 3) := by decide +kernel
theorem dX5_voice_20 : decode mX5_voice.2.1 20 = .ok (.invokevirtual 110, 3) := by decide +kernel
theorem dX5_voice_23 : decode mX5_voice.2.1 23 = .ok (.istore_n 1, 1) := by decide +kernel
theorem dX5_voice_24 : decode mX5_voice.2.1 24 = .ok (.aload_n 0, 1) := by decide +kernel
theorem dX5_voice_25 : decode mX5_voice.2.1 25 = .ok (.getfield 10, 3) := by decide +kernel
theorem dX5_voice_28 : decode mX5_voice.2.1 28 = .ok (.iload_n 1, 1) := by decide +kernel
theorem dX5_voice_29 : decode mX5_voice.2.1 29 = .ok (.invokevirtual 184, 3) := by decide +kernel
theorem dX5_voice_32 : decode mX5_voice.2.1 32 = .ok (.istore_n 2, 1) := by decide +kernel
theorem dX5_voice_33 : decode mX5_voice.2.1 33 = .ok (.aload_n 0, 1) := by decide +kernel
theorem dX5_voice_34 : decode mX5_voice.2.1 34 = .ok (.getfield 19, 3) := by decide +kernel
theorem dX5_voice_37 : decode mX5_voice.2.1 37 = .ok (.aload_n 0, 1) := by decide +kernel
theorem dX5_voice_38 : decode mX5_voice.2.1 38 = .ok (.getfield 10, 3) := by decide +kernel
theorem dX5_voice_41 : decode mX5_voice.2.1 41 = .ok (.invokevirtual 151, 3) := by decide +kernel
theorem dX5_voice_44 : decode mX5_voice.2.1 44 = .ok (.iconst 0, 1) := by decide +kernel
theorem dX5_voice_45 : decode mX5_voice.2.1 45 = .ok (.istore_n 3, 1) := by decide +kernel
theorem dX5_voice_46 : decode mX5_voice.2.1 46 = .ok (.iconst (-1), 1) := by decide +kernel
theorem dX5_voice_47 : decode mX5_voice.2.1 47 = .ok (.istore 4, 2) := by decide +kernel
theorem dX5_voice_49 : decode mX5_voice.2.1 49 = .ok (.iconst 0, 1) := by decide +kernel
theorem dX5_voice_50 : decode mX5_voice.2.1 50 = .ok (.istore 5, 2) := by decide +kernel
theorem dX5_voice_52 : decode mX5_voice.2.1 52 = .ok (.iload 5, 2) := by decide +kernel
theorem dX5_voice_54 : decode mX5_voice.2.1 54 = .ok (.aload_n 0, 1) := by decide +kernel
theorem dX5_voice_55 : decode mX5_voice.2.1 55 = .ok (.getfield 10, 3) := by decide +kernel
theorem dX5_voice_58 : decode mX5_voice.2.1 58 = .ok (.getfield 172, 3) := by decide +kernel
theorem dX5_voice_61 : decode mX5_voice.2.1 61 = .ok (.if_icmp .ge 47, 3) := by decide +kernel
theorem dX5_voice_64 : decode mX5_voice.2.1 64 = .ok (.aload_n 0, 1) := by decide +kernel
theorem dX5_voice_65 : decode mX5_voice.2.1 65 = .ok (.iconst 1, 1) := by decide +kernel
theorem dX5_voice_66 : decode mX5_voice.2.1 66 = .ok (.iload 5, 2) := by decide +kernel
theorem dX5_voice_68 : decode mX5_voice.2.1 68 = .ok (.ishl, 1) := by decide +kernel
theorem dX5_voice_69 : decode mX5_voice.2.1 69 = .ok (.iconst 0, 1) := by decide +kernel
theorem dX5_voice_70 : decode mX5_voice.2.1 70 = .ok (.invokevirtual 181, 3) := by decide +kernel
theorem dX5_voice_73 : decode mX5_voice.2.1 73 = .ok (.aload_n 0, 1) := by decide +kernel
theorem dX5_voice_74 : decode mX5_voice.2.1 74 = .ok (.getfield 19, 3) := by decide +kernel
theorem dX5_voice_77 : decode mX5_voice.2.1 77 = .ok (.iload_n 1, 1) := by decide +kernel
theorem dX5_voice_78 : decode mX5_voice.2.1 78 = .ok (.invokevirtual 184, 3) := by decide +kernel
theorem dX5_voice_81 : decode mX5_voice.2.1 81 = .ok (.iload_n 2, 1) := by decide +kernel
theorem dX5_voice_82 : decode mX5_voice.2.1 82 = .ok (.isub, 1) := by decide +kernel
theorem dX5_voice_83 : decode mX5_voice.2.1 83 = .ok (.invokestatic 190, 3) := by decide +kernel
theorem dX5_voice_86 : decode mX5_voice.2.1 86 = .ok (.istore 6, 2) := by decide +kernel
theorem dX5_voice_88 : decode mX5_voice.2.1 88 = .ok (.iload 6, 2) := by decide +kernel
theorem dX5_voice_90 : decode mX5_voice.2.1 90 = .ok (.iload 4, 2) := by decide +kernel
theorem dX5_voice_92 : decode mX5_voice.2.1 92 = .ok (.if_icmp .le 10, 3) := by decide +kernel
theorem dX5_voice_95 : decode mX5_voice.2.1 95 = .ok (.iload 6, 2) := by decide +kernel
theorem dX5_voice_97 : decode mX5_voice.2.1 97 = .ok (.istore 4, 2) := by decide +kernel
theorem dX5_voice_99 : decode mX5_voice.2.1 99 = .ok (.iload 5, 2) := by decide +kernel
theorem dX5_voice_101 : decode mX5_voice.2.1 101 = .ok (.istore_n 3, 1) := by decide +kernel
theorem dX5_voice_102 : decode mX5_voice.2.1 102 = .ok (.iinc 5 1, 3) := by decide +kernel
theorem dX5_voice_105 : decode mX5_voice.2.1 105 = .ok (.goto (-53), 3) := by decide +kernel
theorem dX5_voice_108 : decode mX5_voice.2.1 108 = .ok (.iload_n 3, 1) := by decide +kernel
theorem dX5_voice_109 : decode mX5_voice.2.1 109 = .ok (.ireturn, 1) := by decide +kernel
theorem dX5_miceFor_0 : decode mX5_miceFor.2.1 0 = .ok (.iload_n 1, 1) := by decide +kernel
theorem dX5_miceFor_1 : decode mX5_miceFor.2.1 1 = .ok (.invokestatic 125, 3) := by decide +kernel
theorem dX5_miceFor_4 : decode mX5_miceFor.2.1 4 = .ok (.ifCond .eq 12, 3) := by decide +kernel
theorem dX5_miceFor_7 : decode mX5_miceFor.2.1 7 = .ok (.iload_n 2, 1) := by decide +kernel
theorem dX5_miceFor_8 : decode mX5_miceFor.2.1 8 = .ok (.iconst 0, 1) := by decide +kernel
theorem dX5_miceFor_9 : decode mX5_miceFor.2.1 9 = .ok (.iconst 1, 1) := by decide +kernel
theorem dX5_miceFor_10 : decode mX5_miceFor.2.1 10 = .ok (.invokestatic 53, 3) := by decide +kernel
theorem dX5_miceFor_13 : decode mX5_miceFor.2.1 13 = .ok (.ifCond .ne 9, 3) := by decide +kernel
theorem dX5_miceFor_16 : decode mX5_miceFor.2.1 16 = .ok (.aload_n 0, 1) := by decide +kernel
theorem dX5_miceFor_17 : decode mX5_miceFor.2.1 17 = .ok (.iconst 0, 1) := by decide +kernel
theorem dX5_miceFor_18 : decode mX5_miceFor.2.1 18 = .ok (.invokevirtual 57, 3) := by decide +kernel
theorem dX5_miceFor_21 : decode mX5_miceFor.2.1 21 = .ok (.ireturn, 1) := by decide +kernel
theorem dX5_miceFor_22 : decode mX5_miceFor.2.1 22 = .ok (.aload_n 0, 1) := by decide +kernel
theorem dX5_miceFor_23 : decode mX5_miceFor.2.1 23 = .ok (.getfield 19, 3) := by decide +kernel
theorem dX5_miceFor_26 : decode mX5_miceFor.2.1 26 = .ok (.aload_n 0, 1) := by decide +kernel
theorem dX5_miceFor_27 : decode mX5_miceFor.2.1 27 = .ok (.getfield 10, 3) := by decide +kernel
theorem dX5_miceFor_30 : decode mX5_miceFor.2.1 30 = .ok (.invokevirtual 151, 3) := by decide +kernel
theorem dX5_miceFor_33 : decode mX5_miceFor.2.1 33 = .ok (.iconst 0, 1) := by decide +kernel
theorem dX5_miceFor_34 : decode mX5_miceFor.2.1 34 = .ok (.istore_n 3, 1) := by decide +kernel
theorem dX5_miceFor_35 : decode mX5_miceFor.2.1 35 = .ok (.iload_n 3, 1) := by decide +kernel
theorem dX5_miceFor_36 : decode mX5_miceFor.2.1 36 = .ok (.bipush 99, 2) := by decide +kernel
theorem dX5_miceFor_38 : decode mX5_miceFor.2.1 38 = .ok (.if_icmp .gt 33, 3) := by decide +kernel
theorem dX5_miceFor_41 : decode mX5_miceFor.2.1 41 = .ok (.aload_n 0, 1) := by decide +kernel
theorem dX5_miceFor_42 : decode mX5_miceFor.2.1 42 = .ok (.getfield 19, 3) := by decide +kernel
theorem dX5_miceFor_45 : decode mX5_miceFor.2.1 45 = .ok (.getfield 61, 3) := by decide +kernel
theorem dX5_miceFor_48 : decode mX5_miceFor.2.1 48 = .ok (.iconst 1, 1) := by decide +kernel
theorem dX5_miceFor_49 : decode mX5_miceFor.2.1 49 = .ok (.iload_n 3, 1) := by decide +kernel
theorem dX5_miceFor_50 : decode mX5_miceFor.2.1 50 = .ok (.iastore, 1) := by decide +kernel
theorem dX5_miceFor_51 : decode mX5_miceFor.2.1 51 = .ok (.aload_n 0, 1) := by decide +kernel
theorem dX5_miceFor_52 : decode mX5_miceFor.2.1 52 = .ok (.getfield 19, 3) := by decide +kernel
theorem dX5_miceFor_55 : decode mX5_miceFor.2.1 55 = .ok (.iload_n 1, 1) := by decide +kernel
theorem dX5_miceFor_56 : decode mX5_miceFor.2.1 56 = .ok (.invokevirtual 128, 3) := by decide +kernel
theorem dX5_miceFor_59 : decode mX5_miceFor.2.1 59 = .ok (.iload_n 2, 1) := by decide +kernel
theorem dX5_miceFor_60 : decode mX5_miceFor.2.1 60 = .ok (.if_icmp .ne 5, 3) := by decide +kernel
theorem dX5_miceFor_63 : decode mX5_miceFor.2.1 63 = .ok (.iload_n 3, 1) := by decide +kernel
theorem dX5_miceFor_64 : decode mX5_miceFor.2.1 64 = .ok (.ireturn, 1) := by decide +kernel
theorem dX5_miceFor_65 : decode mX5_miceFor.2.1 65 = .ok (.iinc 3 1, 3) := by decide +kernel
theorem dX5_miceFor_68 : decode mX5_miceFor.2.1 68 = .ok (.goto (-33), 3) := by decide +kernel
theorem dX5_miceFor_71 : decode mX5_miceFor.2.1 71 = .ok (.aload_n 0, 1) := by decide +kernel
theorem dX5_miceFor_72 : decode mX5_miceFor.2.1 72 = .ok (.iconst 3, 1) := by decide +kernel
theorem dX5_miceFor_73 : decode mX5_miceFor.2.1 73 = .ok (.invokevirtual 57, 3) := by decide +kernel
theorem dX5_miceFor_76 : decode mX5_miceFor.2.1 76 = .ok (.ireturn, 1) := by decide +kernel
theorem dX5_wins_0 : decode mX5_wins.2.1 0 = .ok (.iload_n 1, 1) := by decide +kernel
theorem dX5_wins_1 : decode mX5_wins.2.1 1 = .ok (.iload_n 2, 1) := by decide +kernel
theorem dX5_wins_2 : decode mX5_wins.2.1 2 = .ok (.invokestatic 195, 3) := by decide +kernel
theorem dX5_wins_5 : decode mX5_wins.2.1 5 = .ok (.ifCond .ne 9, 3) := by decide +kernel
theorem dX5_wins_8 : decode mX5_wins.2.1 8 = .ok (.aload_n 0, 1) := by decide +kernel
theorem dX5_wins_9 : decode mX5_wins.2.1 9 = .ok (.iconst 0, 1) := by decide +kernel
theorem dX5_wins_10 : decode mX5_wins.2.1 10 = .ok (.invokevirtual 57, 3) := by decide +kernel
theorem dX5_wins_13 : decode mX5_wins.2.1 13 = .ok (.ireturn, 1) := by decide +kernel
theorem dX5_wins_14 : decode mX5_wins.2.1 14 = .ok (.iload_n 1, 1) := by decide +kernel
theorem dX5_wins_15 : decode mX5_wins.2.1 15 = .ok (.iload_n 2, 1) := by decide +kernel
theorem dX5_wins_16 : decode mX5_wins.2.1 16 = .ok (.invokestatic 198, 3) := by decide +kernel
theorem dX5_wins_19 : decode mX5_wins.2.1 19 = .ok (.ifCond .le 7, 3) := by decide +kernel
theorem dX5_wins_22 : decode mX5_wins.2.1 22 = .ok (.iconst 1, 1) := by decide +kernel
theorem dX5_wins_23 : decode mX5_wins.2.1 23 = .ok (.goto 4, 3) := by decide +kernel
theorem dX5_wins_26 : decode mX5_wins.2.1 26 = .ok (.iconst 0, 1) := by decide +kernel
theorem dX5_wins_27 : decode mX5_wins.2.1 27 = .ok (.ireturn, 1) := by decide +kernel
theorem dX5_cut_0 : decode mX5_cut.2.1 0 = .ok (.iload_n 1, 1) := by decide +kernel
theorem dX5_cut_1 : decode mX5_cut.2.1 1 = .ok (.iload_n 2, 1) := by decide +kernel
theorem dX5_cut_2 : decode mX5_cut.2.1 2 = .ok (.invokestatic 195, 3) := by decide +kernel
theorem dX5_cut_5 : decode mX5_cut.2.1 5 = .ok (.ifCond .ne 9, 3) := by decide +kernel
theorem dX5_cut_8 : decode mX5_cut.2.1 8 = .ok (.aload_n 0, 1) := by decide +kernel
theorem dX5_cut_9 : decode mX5_cut.2.1 9 = .ok (.iconst 0, 1) := by decide +kernel
theorem dX5_cut_10 : decode mX5_cut.2.1 10 = .ok (.invokevirtual 57, 3) := by decide +kernel
theorem dX5_cut_13 : decode mX5_cut.2.1 13 = .ok (.ireturn, 1) := by decide +kernel
theorem dX5_cut_14 : decode mX5_cut.2.1 14 = .ok (.iload_n 1, 1) := by decide +kernel
theorem dX5_cut_15 : decode mX5_cut.2.1 15 = .ok (.iload_n 2, 1) := by decide +kernel
theorem dX5_cut_16 : decode mX5_cut.2.1 16 = .ok (.invokestatic 198, 3) := by decide +kernel
theorem dX5_cut_19 : decode mX5_cut.2.1 19 = .ok (.istore_n 3, 1) := by decide +kernel
theorem dX5_cut_20 : decode mX5_cut.2.1 20 = .ok (.iload_n 3, 1) := by decide +kernel
theorem dX5_cut_21 : decode mX5_cut.2.1 21 = .ok (.ifCond .le 7, 3) := by decide +kernel
theorem dX5_cut_24 : decode mX5_cut.2.1 24 = .ok (.iload_n 3, 1) := by decide +kernel
theorem dX5_cut_25 : decode mX5_cut.2.1 25 = .ok (.goto 8, 3) := by decide +kernel
theorem dX5_cut_28 : decode mX5_cut.2.1 28 = .ok (.aload_n 0, 1) := by decide +kernel
theorem dX5_cut_29 : decode mX5_cut.2.1 29 = .ok (.iconst 3, 1) := by decide +kernel
theorem dX5_cut_30 : decode mX5_cut.2.1 30 = .ok (.invokevirtual 57, 3) := by decide +kernel
theorem dX5_cut_33 : decode mX5_cut.2.1 33 = .ok (.ireturn, 1) := by decide +kernel
theorem dX5_isCutting_0 : decode mX5_isCutting.2.1 0 = .ok (.iload_n 0, 1) := by decide +kernel
theorem dX5_isCutting_1 : decode mX5_isCutting.2.1 1 = .ok (.iconst 1, 1) := by decide +kernel
theorem dX5_isCutting_2 : decode mX5_isCutting.2.1 2 = .ok (.sipush 200, 3) := by decide +kernel
theorem dX5_isCutting_5 : decode mX5_isCutting.2.1 5 = .ok (.invokestatic 53, 3) := by decide +kernel
theorem dX5_isCutting_8 : decode mX5_isCutting.2.1 8 = .ok (.ifCond .eq 17, 3) := by decide +kernel
theorem dX5_isCutting_11 : decode mX5_isCutting.2.1 11 = .ok (.iload_n 1, 1) := by decide +kernel
theorem dX5_isCutting_12 : decode mX5_isCutting.2.1 12 = .ok (.iconst 1, 1) := by decide +kernel
theorem dX5_isCutting_13 : decode mX5_isCutting.2.1 13 = .ok (.bipush 20, 2) := by decide +kernel
theorem dX5_isCutting_15 : decode mX5_isCutting.2.1 15 = .ok (.invokestatic 53, 3) := by decide +kernel
theorem dX5_isCutting_18 : decode mX5_isCutting.2.1 18 = .ok (.ifCond .eq 7, 3) := by decide +kernel
theorem dX5_isCutting_21 : decode mX5_isCutting.2.1 21 = .ok (.iconst 1, 1) := by decide +kernel
theorem dX5_isCutting_22 : decode mX5_isCutting.2.1 22 = .ok (.goto 4, 3) := by decide +kernel
theorem dX5_isCutting_25 : decode mX5_isCutting.2.1 25 = .ok (.iconst 0, 1) := by decide +kernel
theorem dX5_isCutting_26 : decode mX5_isCutting.2.1 26 = .ok (.ireturn, 1) := by decide +kernel
theorem dX5_winningCut_0 : decode mX5_winningCut.2.1 0 = .ok (.iload_n 0, 1) := by decide +kernel
theorem dX5_winningCut_1 : decode mX5_winningCut.2.1 1 = .ok (.iconst 1, 1) := by decide +kernel
theorem dX5_winningCut_2 : decode mX5_winningCut.2.1 2 = .ok (.isub, 1) := by decide +kernel
theorem dX5_winningCut_3 : decode mX5_winningCut.2.1 3 = .ok (.iconst 1, 1) := by decide +kernel
theorem dX5_winningCut_4 : decode mX5_winningCut.2.1 4 = .ok (.iload_n 1, 1) := by decide +kernel
theorem dX5_winningCut_5 : decode mX5_winningCut.2.1 5 = .ok (.invokestatic 201, 3) := by decide +kernel
theorem dX5_winningCut_8 : decode mX5_winningCut.2.1 8 = .ok (.iconst 1, 1) := by decide +kernel
theorem dX5_winningCut_9 : decode mX5_winningCut.2.1 9 = .ok (.iadd, 1) := by decide +kernel
theorem dX5_winningCut_10 : decode mX5_winningCut.2.1 10 = .ok (.irem, 1) := by decide +kernel
theorem dX5_winningCut_11 : decode mX5_winningCut.2.1 11 = .ok (.ireturn, 1) := by decide +kernel
theorem dX5_fits_0 : decode mX5_fits.2.1 0 = .ok (.aload_n 0, 1) := by decide +kernel
theorem dX5_fits_1 : decode mX5_fits.2.1 1 = .ok (.iload_n 1, 1) := by decide +kernel
theorem dX5_fits_2 : decode mX5_fits.2.1 2 = .ok (.iload_n 2, 1) := by decide +kernel
theorem dX5_fits_3 : decode mX5_fits.2.1 3 = .ok (.invokevirtual 204, 3) := by decide +kernel
theorem dX5_fits_6 : decode mX5_fits.2.1 6 = .ok (.istore_n 3, 1) := by decide +kernel
theorem dX5_fits_7 : decode mX5_fits.2.1 7 = .ok (.iload_n 3, 1) := by decide +kernel
theorem dX5_fits_8 : decode mX5_fits.2.1 8 = .ok (.iconst (-1), 1) := by decide +kernel
theorem dX5_fits_9 : decode mX5_fits.2.1 9 = .ok (.if_icmp .eq 9, 3) := by decide +kernel
theorem dX5_fits_12 : decode mX5_fits.2.1 12 = .ok (.aload_n 0, 1) := by decide +kernel
theorem dX5_fits_13 : decode mX5_fits.2.1 13 = .ok (.iload_n 3, 1) := by decide +kernel
theorem dX5_fits_14 : decode mX5_fits.2.1 14 = .ok (.invokevirtual 57, 3) := by decide +kernel
theorem dX5_fits_17 : decode mX5_fits.2.1 17 = .ok (.ireturn, 1) := by decide +kernel
theorem dX5_fits_18 : decode mX5_fits.2.1 18 = .ok (.iconst 0, 1) := by decide +kernel
theorem dX5_fits_19 : decode mX5_fits.2.1 19 = .ok (.istore 4, 2) := by decide +kernel
theorem dX5_fits_21 : decode mX5_fits.2.1 21 = .ok (.getstatic 166, 3) := by decide +kernel
theorem dX5_fits_24 : decode mX5_fits.2.1 24 = .ok (.iconst 3, 1) := by decide +kernel
theorem dX5_fits_25 : decode mX5_fits.2.1 25 = .ok (.iaload, 1) := by decide +kernel
theorem dX5_fits_26 : decode mX5_fits.2.1 26 = .ok (.istore 5, 2) := by decide +kernel
theorem dX5_fits_28 : decode mX5_fits.2.1 28 = .ok (.iload 5, 2) := by decide +kernel
theorem dX5_fits_30 : decode mX5_fits.2.1 30 = .ok (.getstatic 163, 3) := by decide +kernel
theorem dX5_fits_33 : decode mX5_fits.2.1 33 = .ok (.iconst 3, 1) := by decide +kernel
theorem dX5_fits_34 : decode mX5_fits.2.1 34 = .ok (.iaload, 1) := by decide +kernel
theorem dX5_fits_35 : decode mX5_fits.2.1 35 = .ok (.if_icmp .gt 28, 3) := by decide +kernel
theorem dX5_fits_38 : decode mX5_fits.2.1 38 = .ok (.aload_n 0, 1) := by decide +kernel
theorem dX5_fits_39 : decode mX5_fits.2.1 39 = .ok (.aload_n 0, 1) := by decide +kernel
theorem dX5_fits_40 : decode mX5_fits.2.1 40 = .ok (.getfield 40, 3) := by decide +kernel
theorem dX5_fits_43 : decode mX5_fits.2.1 43 = .ok (.iload_n 1, 1) := by decide +kernel
theorem dX5_fits_44 : decode mX5_fits.2.1 44 = .ok (.aaload, 1) := by decide +kernel
theorem dX5_fits_45 : decode mX5_fits.2.1 45 = .ok (.iload_n 2, 1) := by decide +kernel
theorem dX5_fits_46 : decode mX5_fits.2.1 46 = .ok (.iload 5, 2) := by decide +kernel
theorem dX5_fits_48 : decode mX5_fits.2.1 48 = .ok (.invokevirtual 207, 3) := by decide +kernel
theorem dX5_fits_51 : decode mX5_fits.2.1 51 = .ok (.ifCond .eq 6, 3) := by decide +kernel
theorem dX5_fits_54 : decode mX5_fits.2.1 54 = .ok (.iinc 4 1, 3) := by decide +kernel
theorem dX5_fits_57 : decode mX5_fits.2.1 57 = .ok (.iinc 5 1, 3) := by decide +kernel
theorem dX5_fits_60 : decode mX5_fits.2.1 60 = .ok (.goto (-32), 3) := by decide +kernel
theorem dX5_fits_63 : decode mX5_fits.2.1 63 = .ok (.iload 4, 2) := by decide +kernel
theorem dX5_fits_65 : decode mX5_fits.2.1 65 = .ok (.ireturn, 1) := by decide +kernel
theorem dX5_thinks_0 : decode mX5_thinks.2.1 0 = .ok (.aload_n 0, 1) := by decide +kernel
theorem dX5_thinks_1 : decode mX5_thinks.2.1 1 = .ok (.iload_n 1, 1) := by decide +kernel
theorem dX5_thinks_2 : decode mX5_thinks.2.1 2 = .ok (.iload_n 2, 1) := by decide +kernel
theorem dX5_thinks_3 : decode mX5_thinks.2.1 3 = .ok (.invokevirtual 204, 3) := by decide +kernel
theorem dX5_thinks_6 : decode mX5_thinks.2.1 6 = .ok (.istore_n 3, 1) := by decide +kernel
theorem dX5_thinks_7 : decode mX5_thinks.2.1 7 = .ok (.iload_n 3, 1) := by decide +kernel
theorem dX5_thinks_8 : decode mX5_thinks.2.1 8 = .ok (.iconst (-1), 1) := by decide +kernel
theorem dX5_thinks_9 : decode mX5_thinks.2.1 9 = .ok (.if_icmp .eq 9, 3) := by decide +kernel
theorem dX5_thinks_12 : decode mX5_thinks.2.1 12 = .ok (.aload_n 0, 1) := by decide +kernel
theorem dX5_thinks_13 : decode mX5_thinks.2.1 13 = .ok (.iload_n 3, 1) := by decide +kernel
theorem dX5_thinks_14 : decode mX5_thinks.2.1 14 = .ok (.invokevirtual 57, 3) := by decide +kernel
theorem dX5_thinks_17 : decode mX5_thinks.2.1 17 = .ok (.ireturn, 1) := by decide +kernel
theorem dX5_thinks_18 : decode mX5_thinks.2.1 18 = .ok (.getstatic 166, 3) := by decide +kernel
theorem dX5_thinks_21 : decode mX5_thinks.2.1 21 = .ok (.iconst 3, 1) := by decide +kernel
theorem dX5_thinks_22 : decode mX5_thinks.2.1 22 = .ok (.iaload, 1) := by decide +kernel
theorem dX5_thinks_23 : decode mX5_thinks.2.1 23 = .ok (.istore 4, 2) := by decide +kernel
theorem dX5_thinks_25 : decode mX5_thinks.2.1 25 = .ok (.iload 4, 2) := by decide +kernel
theorem dX5_thinks_27 : decode mX5_thinks.2.1 27 = .ok (.getstatic 163, 3) := by decide +kernel
theorem dX5_thinks_30 : decode mX5_thinks.2.1 30 = .ok (.iconst 3, 1) := by decide +kernel
theorem dX5_thinks_31 : decode mX5_thinks.2.1 31 = .ok (.iaload, 1) := by decide +kernel
theorem dX5_thinks_32 : decode mX5_thinks.2.1 32 = .ok (.if_icmp .gt 28, 3) := by decide +kernel
theorem dX5_thinks_35 : decode mX5_thinks.2.1 35 = .ok (.aload_n 0, 1) := by decide +kernel
theorem dX5_thinks_36 : decode mX5_thinks.2.1 36 = .ok (.aload_n 0, 1) := by decide +kernel
theorem dX5_thinks_37 : decode mX5_thinks.2.1 37 = .ok (.getfield 40, 3) := by decide +kernel
theorem dX5_thinks_40 : decode mX5_thinks.2.1 40 = .ok (.iload_n 1, 1) := by decide +kernel
theorem dX5_thinks_41 : decode mX5_thinks.2.1 41 = .ok (.aaload, 1) := by decide +kernel
theorem dX5_thinks_42 : decode mX5_thinks.2.1 42 = .ok (.iload_n 2, 1) := by decide +kernel
theorem dX5_thinks_43 : decode mX5_thinks.2.1 43 = .ok (.iload 4, 2) := by decide +kernel
theorem dX5_thinks_45 : decode mX5_thinks.2.1 45 = .ok (.invokevirtual 207, 3) := by decide +kernel
theorem dX5_thinks_48 : decode mX5_thinks.2.1 48 = .ok (.ifCond .eq 6, 3) := by decide +kernel
theorem dX5_thinks_51 : decode mX5_thinks.2.1 51 = .ok (.iload 4, 2) := by decide +kernel
theorem dX5_thinks_53 : decode mX5_thinks.2.1 53 = .ok (.ireturn, 1) := by decide +kernel
theorem dX5_thinks_54 : decode mX5_thinks.2.1 54 = .ok (.iinc 4 1, 3) := by decide +kernel
theorem dX5_thinks_57 : decode mX5_thinks.2.1 57 = .ok (.goto (-32), 3) := by decide +kernel
theorem dX5_thinks_60 : decode mX5_thinks.2.1 60 = .ok (.aload_n 0, 1) := by decide +kernel
theorem dX5_thinks_61 : decode mX5_thinks.2.1 61 = .ok (.iconst 3, 1) := by decide +kernel
theorem dX5_thinks_62 : decode mX5_thinks.2.1 62 = .ok (.invokevirtual 57, 3) := by decide +kernel
theorem dX5_thinks_65 : decode mX5_thinks.2.1 65 = .ok (.ireturn, 1) := by decide +kernel
theorem dX5_refusalOfFit_0 : decode mX5_refusalOfFit.2.1 0 = .ok (.aload_n 0, 1) := by decide +kernel
theorem dX5_refusalOfFit_1 : decode mX5_refusalOfFit.2.1 1 = .ok (.iload_n 1, 1) := by decide +kernel
theorem dX5_refusalOfFit_2 : decode mX5_refusalOfFit.2.1 2 = .ok (.invokevirtual 211, 3) := by decide +kernel
theorem dX5_refusalOfFit_5 : decode mX5_refusalOfFit.2.1 5 = .ok (.istore_n 3, 1) := by decide +kernel
theorem dX5_refusalOfFit_6 : decode mX5_refusalOfFit.2.1 6 = .ok (.iload_n 3, 1) := by decide +kernel
theorem dX5_refusalOfFit_7 : decode mX5_refusalOfFit.2.1 7 = .ok (.iconst (-1), 1) := by decide +kernel
theorem dX5_refusalOfFit_8 : decode mX5_refusalOfFit.2.1 8 = .ok (.if_icmp .eq 5, 3) := by decide +kernel
theorem dX5_refusalOfFit_11 : decode mX5_refusalOfFit.2.1 11 = .ok (.iload_n 3, 1) := by decide +kernel
theorem dX5_refusalOfFit_12 : decode mX5_refusalOfFit.2.1 12 = .ok (.ireturn, 1) := by decide +kernel
theorem dX5_refusalOfFit_13 : decode mX5_refusalOfFit.2.1 13 = .ok (.aload_n 0, 1) := by decide +kernel
theorem dX5_refusalOfFit_14 : decode mX5_refusalOfFit.2.1 14 = .ok (.getfield 10, 3) := by decide +kernel
theorem dX5_refusalOfFit_17 : decode mX5_refusalOfFit.2.1 17 = .ok (.iload_n 2, 1) := by decide +kernel
theorem dX5_refusalOfFit_18 : decode mX5_refusalOfFit.2.1 18 = .ok (.invokevirtual 78, 3) := by decide +kernel
theorem dX5_refusalOfFit_21 : decode mX5_refusalOfFit.2.1 21 = .ok (.ifCond .eq 7, 3) := by decide +kernel
theorem dX5_refusalOfFit_24 : decode mX5_refusalOfFit.2.1 24 = .ok (.iconst (-1), 1) := by decide +kernel
theorem dX5_refusalOfFit_25 : decode mX5_refusalOfFit.2.1 25 = .ok (.goto 4, 3) := by decide +kernel
theorem dX5_refusalOfFit_28 : decode mX5_refusalOfFit.2.1 28 = .ok (.iconst 0, 1) := by decide +kernel
theorem dX5_refusalOfFit_29 : decode mX5_refusalOfFit.2.1 29 = .ok (.ireturn, 1) := by decide +kernel
theorem dX5_opinionFits_0 : decode mX5_opinionFits.2.1 0 = .ok (.aload_n 0, 1) := by decide +kernel
theorem dX5_opinionFits_1 : decode mX5_opinionFits.2.1 1 = .ok (.getfield 19, 3) := by decide +kernel
theorem dX5_opinionFits_4 : decode mX5_opinionFits.2.1 4 = .ok (.aload_n 0, 1) := by decide +kernel
theorem dX5_opinionFits_5 : decode mX5_opinionFits.2.1 5 = .ok (.getfield 10, 3) := by decide +kernel
theorem dX5_opinionFits_8 : decode mX5_opinionFits.2.1 8 = .ok (.invokevirtual 151, 3) := by decide +kernel
theorem dX5_opinionFits_11 : decode mX5_opinionFits.2.1 11 = .ok (.aload_n 0, 1) := by decide +kernel
theorem dX5_opinionFits_12 : decode mX5_opinionFits.2.1 12 = .ok (.getfield 19, 3) := by decide +kernel
theorem dX5_opinionFits_15 : decode mX5_opinionFits.2.1 15 = .ok (.getfield 82, 3) := by decide +kernel
theorem dX5_opinionFits_18 : decode mX5_opinionFits.2.1 18 = .ok (.iload_n 2, 1) := by decide +kernel
theorem dX5_opinionFits_19 : decode mX5_opinionFits.2.1 19 = .ok (.aaload, 1) := by decide +kernel
theorem dX5_opinionFits_20 : decode mX5_opinionFits.2.1 20 = .ok (.iload_n 3, 1) := by decide +kernel
theorem dX5_opinionFits_21 : decode mX5_opinionFits.2.1 21 = .ok (.putfield 187, 3) := by decide +kernel
theorem dX5_opinionFits_24 : decode mX5_opinionFits.2.1 24 = .ok (.iconst 0, 1) := by decide +kernel
theorem dX5_opinionFits_25 : decode mX5_opinionFits.2.1 25 = .ok (.istore 4, 2) := by decide +kernel
theorem dX5_opinionFits_27 : decode mX5_opinionFits.2.1 27 = .ok (.iload 4, 2) := by decide +kernel
theorem dX5_opinionFits_29 : decode mX5_opinionFits.2.1 29 = .ok (.aload_n 1, 1) := by decide +kernel
theorem dX5_opinionFits_30 : decode mX5_opinionFits.2.1 30 = .ok (.getfield 214, 3) := by decide +kernel
theorem dX5_opinionFits_33 : decode mX5_opinionFits.2.1 33 = .ok (.if_icmp .ge 52, 3) := by decide +kernel
theorem dX5_opinionFits_36 : decode mX5_opinionFits.2.1 36 = .ok (.iload 4, 2) := by decide +kernel
theorem dX5_opinionFits_38 : decode mX5_opinionFits.2.1 38 = .ok (.ifCond .le 10, 3) := by decide +kernel
theorem dX5_opinionFits_41 : decode mX5_opinionFits.2.1 41 = .ok (.aload_n 0, 1) := by decide +kernel
theorem dX5_opinionFits_42 : decode mX5_opinionFits.2.1 42 = .ok (.getfield 19, 3) := by decide +kernel
theorem dX5_opinionFits_45 : decode mX5_opinionFits.2.1 45 = .ok (.invokevirtual 135, 3) := by decide +kernel
theorem dX5_opinionFits_48 : decode mX5_opinionFits.2.1 48 = .ok (.aload_n 1, 1) := by decide +kernel
theorem dX5_opinionFits_49 : decode mX5_opinionFits.2.1 49 = .ok (.getfield 217, 3) := by decide +kernel
theorem dX5_opinionFits_52 : decode mX5_opinionFits.2.1 52 = .ok (.iload 4, 2) := by decide +kernel
theorem dX5_opinionFits_54 : decode mX5_opinionFits.2.1 54 = .ok (.iaload, 1) := by decide +kernel
theorem dX5_opinionFits_55 : decode mX5_opinionFits.2.1 55 = .ok (.istore 5, 2) := by decide +kernel
theorem dX5_opinionFits_57 : decode mX5_opinionFits.2.1 57 = .ok (.iload 5, 2) := by decide +kernel
theorem dX5_opinionFits_59 : decode mX5_opinionFits.2.1 59 = .ok (.sipush 9999, 3) := by decide +kernel
theorem dX5_opinionFits_62 : decode mX5_opinionFits.2.1 62 = .ok (.if_icmp .eq 17, 3) := by decide +kernel
theorem dX5_opinionFits_65 : decode mX5_opinionFits.2.1 65 = .ok (.iload 5, 2) := by decide +kernel
theorem dX5_opinionFits_67 : decode mX5_opinionFits.2.1 67 = .ok (.aload_n 0, 1) := by decide +kernel
theorem dX5_opinionFits_68 : decode mX5_opinionFits.2.1 68 = .ok (.getfield 19, 3) := by decide +kernel
theorem dX5_opinionFits_71 : decode mX5_opinionFits.2.1 71 = .ok (.invokevirtual 122, 3) := by decide +kernel
theorem dX5_opinionFits_74 : decode mX5_opinionFits.2.1 74 = .ok (.if_icmp .eq 5, 3) := by decide +kernel
theorem dX5_opinionFits_77 : decode mX5_opinionFits.2.1 77 = .ok (.iconst 0, 1) := by decide +kernel
theorem dX5_opinionFits_78 : decode mX5_opinionFits.2.1 78 = .ok (.ireturn, 1) := by decide +kernel
theorem dX5_opinionFits_79 : decode mX5_opinionFits.2.1 79 = .ok (.iinc 4 1, 3) := by decide +kernel
theorem dX5_opinionFits_82 : decode mX5_opinionFits.2.1 82 = .ok (.goto (-55), 3) := by decide +kernel
theorem dX5_opinionFits_85 : decode mX5_opinionFits.2.1 85 = .ok (.iconst 1, 1) := by decide +kernel
theorem dX5_opinionFits_86 : decode mX5_opinionFits.2.1 86 = .ok (.ireturn, 1) := by decide +kernel
theorem dX5_weathers_0 : decode mX5_weathers.2.1 0 = .ok (.iload_n 1, 1) := by decide +kernel
theorem dX5_weathers_1 : decode mX5_weathers.2.1 1 = .ok (.iconst 1, 1) := by decide +kernel
theorem dX5_weathers_2 : decode mX5_weathers.2.1 2 = .ok (.bipush 20, 2) := by decide +kernel
theorem dX5_weathers_4 : decode mX5_weathers.2.1 4 = .ok (.invokestatic 53, 3) := by decide +kernel
theorem dX5_weathers_7 : decode mX5_weathers.2.1 7 = .ok (.ifCond .ne 9, 3) := by decide +kernel
theorem dX5_weathers_10 : decode mX5_weathers.2.1 10 = .ok (.aload_n 0, 1) := by decide +kernel
theorem dX5_weathers_11 : decode mX5_weathers.2.1 11 = .ok (.iconst 0, 1) := by decide +kernel
theorem dX5_weathers_12 : decode mX5_weathers.2.1 12 = .ok (.invokevirtual 57, 3) := by decide +kernel
theorem dX5_weathers_15 : decode mX5_weathers.2.1 15 = .ok (.ireturn, 1) := by decide +kernel
theorem dX5_weathers_16 : decode mX5_weathers.2.1 16 = .ok (.aload_n 0, 1) := by decide +kernel
theorem dX5_weathers_17 : decode mX5_weathers.2.1 17 = .ok (.getfield 10, 3) := by decide +kernel
theorem dX5_weathers_20 : decode mX5_weathers.2.1 20 = .ok (.getfield 131, 3) := by decide +kernel
theorem dX5_weathers_23 : decode mX5_weathers.2.1 23 = .ok (.iload_n 1, 1) := by decide +kernel
theorem dX5_weathers_24 : decode mX5_weathers.2.1 24 = .ok (.iadd, 1) := by decide +kernel
theorem dX5_weathers_25 : decode mX5_weathers.2.1 25 = .ok (.ldc 134, 2) := by decide +kernel
theorem dX5_weathers_27 : decode mX5_weathers.2.1 27 = .ok (.if_icmp .le 9, 3) := by decide +kernel
theorem dX5_weathers_30 : decode mX5_weathers.2.1 30 = .ok (.aload_n 0, 1) := by decide +kernel
theorem dX5_weathers_31 : decode mX5_weathers.2.1 31 = .ok (.iconst 4, 1) := by decide +kernel
theorem dX5_weathers_32 : decode mX5_weathers.2.1 32 = .ok (.invokevirtual 57, 3) := by decide +kernel
theorem dX5_weathers_35 : decode mX5_weathers.2.1 35 = .ok (.ireturn, 1) := by decide +kernel
theorem dX5_weathers_36 : decode mX5_weathers.2.1 36 = .ok (.iconst 0, 1) := by decide +kernel
theorem dX5_weathers_37 : decode mX5_weathers.2.1 37 = .ok (.istore_n 2, 1) := by decide +kernel
theorem dX5_weathers_38 : decode mX5_weathers.2.1 38 = .ok (.iload_n 2, 1) := by decide +kernel
theorem dX5_weathers_39 : decode mX5_weathers.2.1 39 = .ok (.iload_n 1, 1) := by decide +kernel
theorem dX5_weathers_40 : decode mX5_weathers.2.1 40 = .ok (.if_icmp .ge 54, 3) := by decide +kernel
theorem dX5_weathers_43 : decode mX5_weathers.2.1 43 = .ok (.aload_n 0, 1) := by decide +kernel
theorem dX5_weathers_44 : decode mX5_weathers.2.1 44 = .ok (.getfield 10, 3) := by decide +kernel
theorem dX5_weathers_47 : decode mX5_weathers.2.1 47 = .ok (.getfield 61, 3) := by decide +kernel
theorem dX5_weathers_50 : decode mX5_weathers.2.1 50 = .ok (.iconst 0, 1) := by decide +kernel
theorem dX5_weathers_51 : decode mX5_weathers.2.1 51 = .ok (.aload_n 0, 1) := by decide +kernel
theorem dX5_weathers_52 : decode mX5_weathers.2.1 52 = .ok (.getfield 10, 3) := by decide +kernel
theorem dX5_weathers_55 : decode mX5_weathers.2.1 55 = .ok (.invokevirtual 220, 3) := by decide +kernel
theorem dX5_weathers_58 : decode mX5_weathers.2.1 58 = .ok (.bipush 100, 2) := by decide +kernel
theorem dX5_weathers_60 : decode mX5_weathers.2.1 60 = .ok (.irem, 1) := by decide +kernel
theorem dX5_weathers_61 : decode mX5_weathers.2.1 61 = .ok (.iastore, 1) := by decide +kernel
theorem dX5_weathers_62 : decode mX5_weathers.2.1 62 = .ok (.aload_n 0, 1) := by decide +kernel
theorem dX5_weathers_63 : decode mX5_weathers.2.1 63 = .ok (.getfield 10, 3) := by decide +kernel
theorem dX5_weathers_66 : decode mX5_weathers.2.1 66 = .ok (.getfield 61, 3) := by decide +kernel
theorem dX5_weathers_69 : decode mX5_weathers.2.1 69 = .ok (.iconst 2, 1) := by decide +kernel
theorem dX5_weathers_70 : decode mX5_weathers.2.1 70 = .ok (.aload_n 0, 1) := by decide +kernel
theorem dX5_weathers_71 : decode mX5_weathers.2.1 71 = .ok (.getfield 10, 3) := by decide +kernel
theorem dX5_weathers_74 : decode mX5_weathers.2.1 74 = .ok (.invokevirtual 220, 3) := by decide +kernel
theorem dX5_weathers_77 : decode mX5_weathers.2.1 77 = .ok (.bipush 100, 2) := by decide +kernel
theorem dX5_weathers_79 : decode mX5_weathers.2.1 79 = .ok (.irem, 1) := by decide +kernel
theorem dX5_weathers_80 : decode mX5_weathers.2.1 80 = .ok (.iastore, 1) := by decide +kernel
theorem dX5_weathers_81 : decode mX5_weathers.2.1 81 = .ok (.aload_n 0, 1) := by decide +kernel
theorem dX5_weathers_82 : decode mX5_weathers.2.1 82 = .ok (.getfield 10, 3) := by decide +kernel
theorem dX5_weathers_85 : decode mX5_weathers.2.1 85 = .ok (.invokevirtual 135, 3) := by decide +kernel
theorem dX5_weathers_88 : decode mX5_weathers.2.1 88 = .ok (.iinc 2 1, 3) := by decide +kernel
theorem dX5_weathers_91 : decode mX5_weathers.2.1 91 = .ok (.goto (-53), 3) := by decide +kernel
theorem dX5_weathers_94 : decode mX5_weathers.2.1 94 = .ok (.aload_n 0, 1) := by decide +kernel
theorem dX5_weathers_95 : decode mX5_weathers.2.1 95 = .ok (.getfield 10, 3) := by decide +kernel
theorem dX5_weathers_98 : decode mX5_weathers.2.1 98 = .ok (.invokevirtual 122, 3) := by decide +kernel
theorem dX5_weathers_101 : decode mX5_weathers.2.1 101 = .ok (.ireturn, 1) := by decide +kernel
theorem dX5_odds_0 : decode mX5_odds.2.1 0 = .ok (.iload_n 1, 1) := by decide +kernel
theorem dX5_odds_1 : decode mX5_odds.2.1 1 = .ok (.iconst 0, 1) := by decide +kernel
theorem dX5_odds_2 : decode mX5_odds.2.1 2 = .ok (.bipush 12, 2) := by decide +kernel
theorem dX5_odds_4 : decode mX5_odds.2.1 4 = .ok (.invokestatic 53, 3) := by decide +kernel
theorem dX5_odds_7 : decode mX5_odds.2.1 7 = .ok (.ifCond .eq 12, 3) := by decide +kernel
theorem dX5_odds_10 : decode mX5_odds.2.1 10 = .ok (.iload_n 2, 1) := by decide +kernel
theorem dX5_odds_11 : decode mX5_odds.2.1 11 = .ok (.iconst 0, 1) := by decide +kernel
theorem dX5_odds_12 : decode mX5_odds.2.1 12 = .ok (.iconst 1, 1) := by decide +kernel
theorem dX5_odds_13 : decode mX5_odds.2.1 13 = .ok (.invokestatic 53, 3) := by decide +kernel
theorem dX5_odds_16 : decode mX5_odds.2.1 16 = .ok (.ifCond .ne 10, 3) := by decide +kernel
theorem dX5_odds_19 : decode mX5_odds.2.1 19 = .ok (.aload_n 0, 1) := by decide +kernel
theorem dX5_odds_20 : decode mX5_odds.2.1 20 = .ok (.iconst 0, 1) := by decide +kernel
theorem dX5_odds_21 : decode mX5_odds.2.1 21 = .ok (.invokevirtual 57, 3) := by decide +kernel
theorem dX5_odds_24 : decode mX5_odds.2.1 24 = .ok (.i2l, 1) := by decide +kernel
theorem dX5_odds_25 : decode mX5_odds.2.1 25 = .ok (.lreturn, 1) := by decide +kernel
theorem dX5_odds_26 : decode mX5_odds.2.1 26 = .ok (.iload_n 2, 1) := by decide +kernel
theorem dX5_odds_27 : decode mX5_odds.2.1 27 = .ok (.ifCond .ne 9, 3) := by decide +kernel
theorem dX5_odds_30 : decode mX5_odds.2.1 30 = .ok (.ldc2_w 223, 3) := by decide +kernel
theorem dX5_odds_33 : decode mX5_odds.2.1 33 = .ok (.goto 6, 3) := by decide +kernel
theorem dX5_odds_36 : decode mX5_odds.2.1 36 = .ok (.ldc2_w 225, 3) := by decide +kernel
theorem dX5_odds_39 : decode mX5_odds.2.1 39 = .ok (.lstore_n 3, 1) := by decide +kernel
theorem dX5_odds_40 : decode mX5_odds.2.1 40 = .ok (.lconst 1, 1) := by decide +kernel
theorem dX5_odds_41 : decode mX5_odds.2.1 41 = .ok (.lstore 5, 2) := by decide +kernel
theorem dX5_odds_43 : decode mX5_odds.2.1 43 = .ok (.iconst 0, 1) := by decide +kernel
theorem dX5_odds_44 : decode mX5_odds.2.1 44 = .ok (.istore 7, 2) := by decide +kernel
theorem dX5_odds_46 : decode mX5_odds.2.1 46 = .ok (.iload 7, 2) := by decide +kernel
theorem dX5_odds_48 : decode mX5_odds.2.1 48 = .ok (.iload_n 1, 1) := by decide +kernel
theorem dX5_odds_49 : decode mX5_odds.2.1 49 = .ok (.if_icmp .ge 15, 3) := by decide +kernel
theorem dX5_odds_52 : decode mX5_odds.2.1 52 = .ok (.lload 5, 2) := by decide +kernel
theorem dX5_odds_54 : decode mX5_odds.2.1 54 = .ok (.lload_n 3, 1) := by decide +kernel
theorem dX5_odds_55 : decode mX5_odds.2.1 55 = .ok (.lmul, 1) := by decide +kernel
theorem dX5_odds_56 : decode mX5_odds.2.1 56 = .ok (.lstore 5, 2) := by decide +kernel
theorem dX5_odds_58 : decode mX5_odds.2.1 58 = .ok (.iinc 7 1, 3) := by decide +kernel
theorem dX5_odds_61 : decode mX5_odds.2.1 61 = .ok (.goto (-15), 3) := by decide +kernel
theorem dX5_odds_64 : decode mX5_odds.2.1 64 = .ok (.lload 5, 2) := by decide +kernel
theorem dX5_odds_66 : decode mX5_odds.2.1 66 = .ok (.lreturn, 1) := by decide +kernel
theorem dX5_seed_0 : decode mX5_seed.2.1 0 = .ok (.aload_n 0, 1) := by decide +kernel
theorem dX5_seed_1 : decode mX5_seed.2.1 1 = .ok (.getfield 10, 3) := by decide +kernel
theorem dX5_seed_4 : decode mX5_seed.2.1 4 = .ok (.getfield 227, 3) := by decide +kernel
theorem dX5_seed_7 : decode mX5_seed.2.1 7 = .ok (.istore_n 2, 1) := by decide +kernel
theorem dX5_seed_8 : decode mX5_seed.2.1 8 = .ok (.aload_n 0, 1) := by decide +kernel
theorem dX5_seed_9 : decode mX5_seed.2.1 9 = .ok (.getfield 10, 3) := by decide +kernel
theorem dX5_seed_12 : decode mX5_seed.2.1 12 = .ok (.iload_n 1, 1) := by decide +kernel
theorem dX5_seed_13 : decode mX5_seed.2.1 13 = .ok (.putfield 227, 3) := by decide +kernel
theorem dX5_seed_16 : decode mX5_seed.2.1 16 = .ok (.iload_n 2, 1) := by decide +kernel
theorem dX5_seed_17 : decode mX5_seed.2.1 17 = .ok (.ireturn, 1) := by decide +kernel
theorem dX5_feed_0 : decode mX5_feed.2.1 0 = .ok (.iload_n 2, 1) := by decide +kernel
theorem dX5_feed_1 : decode mX5_feed.2.1 1 = .ok (.iconst 1, 1) := by decide +kernel
theorem dX5_feed_2 : decode mX5_feed.2.1 2 = .ok (.iconst 4, 1) := by decide +kernel
theorem dX5_feed_3 : decode mX5_feed.2.1 3 = .ok (.invokestatic 53, 3) := by decide +kernel
theorem dX5_feed_6 : decode mX5_feed.2.1 6 = .ok (.ifCond .ne 9, 3) := by decide +kernel
theorem dX5_feed_9 : decode mX5_feed.2.1 9 = .ok (.aload_n 0, 1) := by decide +kernel
theorem dX5_feed_10 : decode mX5_feed.2.1 10 = .ok (.iconst 0, 1) := by decide +kernel
theorem dX5_feed_11 : decode mX5_feed.2.1 11 = .ok (.invokevirtual 57, 3) := by decide +kernel
theorem dX5_feed_14 : decode mX5_feed.2.1 14 = .ok (.ireturn, 1) := by decide +kernel
theorem dX5_feed_15 : decode mX5_feed.2.1 15 = .ok (.aload_n 0, 1) := by decide +kernel
theorem dX5_feed_16 : decode mX5_feed.2.1 16 = .ok (.getfield 25, 3) := by decide +kernel
theorem dX5_feed_19 : decode mX5_feed.2.1 19 = .ok (.getfield 230, 3) := by decide +kernel
theorem dX5_feed_22 : decode mX5_feed.2.1 22 = .ok (.iload_n 2, 1) := by decide +kernel
theorem dX5_feed_23 : decode mX5_feed.2.1 23 = .ok (.iadd, 1) := by decide +kernel
theorem dX5_feed_24 : decode mX5_feed.2.1 24 = .ok (.bipush 120, 2) := by decide +kernel
theorem dX5_feed_26 : decode mX5_feed.2.1 26 = .ok (.if_icmp .le 9, 3) := by decide +kernel
theorem dX5_feed_29 : decode mX5_feed.2.1 29 = .ok (.aload_n 0, 1) := by decide +kernel
theorem dX5_feed_30 : decode mX5_feed.2.1 30 = .ok (.iconst 1, 1) := by decide +kernel
theorem dX5_feed_31 : decode mX5_feed.2.1 31 = .ok (.invokevirtual 57, 3) := by decide +kernel
theorem dX5_feed_34 : decode mX5_feed.2.1 34 = .ok (.ireturn, 1) := by decide +kernel
theorem dX5_feed_35 : decode mX5_feed.2.1 35 = .ok (.iload_n 2, 1) := by decide +kernel
theorem dX5_feed_36 : decode mX5_feed.2.1 36 = .ok (.iconst 1, 1) := by decide +kernel
theorem dX5_feed_37 : decode mX5_feed.2.1 37 = .ok (.isub, 1) := by decide +kernel
theorem dX5_feed_38 : decode mX5_feed.2.1 38 = .ok (.istore_n 3, 1) := by decide +kernel
theorem dX5_feed_39 : decode mX5_feed.2.1 39 = .ok (.iload_n 3, 1) := by decide +kernel
theorem dX5_feed_40 : decode mX5_feed.2.1 40 = .ok (.ifCond .lt 23, 3) := by decide +kernel
theorem dX5_feed_43 : decode mX5_feed.2.1 43 = .ok (.aload_n 0, 1) := by decide +kernel
theorem dX5_feed_44 : decode mX5_feed.2.1 44 = .ok (.getfield 25, 3) := by decide +kernel
theorem dX5_feed_47 : decode mX5_feed.2.1 47 = .ok (.iload_n 1, 1) := by decide +kernel
theorem dX5_feed_48 : decode mX5_feed.2.1 48 = .ok (.bipush 8, 2) := by decide +kernel
theorem dX5_feed_50 : decode mX5_feed.2.1 50 = .ok (.iload_n 3, 1) := by decide +kernel
theorem dX5_feed_51 : decode mX5_feed.2.1 51 = .ok (.imul, 1) := by decide +kernel
theorem dX5_feed_52 : decode mX5_feed.2.1 52 = .ok (.iushr, 1) := by decide +kernel
theorem dX5_feed_53 : decode mX5_feed.2.1 53 = .ok (.i2b, 1) := by decide +kernel
theorem dX5_feed_54 : decode mX5_feed.2.1 54 = .ok (.invokevirtual 233, 3) := by decide +kernel
theorem dX5_feed_57 : decode mX5_feed.2.1 57 = .ok (.iinc 3 (-1), 3) := by decide +kernel
theorem dX5_feed_60 : decode mX5_feed.2.1 60 = .ok (.goto (-21), 3) := by decide +kernel
theorem dX5_feed_63 : decode mX5_feed.2.1 63 = .ok (.aload_n 0, 1) := by decide +kernel
theorem dX5_feed_64 : decode mX5_feed.2.1 64 = .ok (.getfield 25, 3) := by decide +kernel
theorem dX5_feed_67 : decode mX5_feed.2.1 67 = .ok (.getfield 230, 3) := by decide +kernel
theorem dX5_feed_70 : decode mX5_feed.2.1 70 = .ok (.ireturn, 1) := by decide +kernel
theorem dX5_wipe_0 : decode mX5_wipe.2.1 0 = .ok (.aload_n 0, 1) := by decide +kernel
theorem dX5_wipe_1 : decode mX5_wipe.2.1 1 = .ok (.getfield 25, 3) := by decide +kernel
theorem dX5_wipe_4 : decode mX5_wipe.2.1 4 = .ok (.getfield 230, 3) := by decide +kernel
theorem dX5_wipe_7 : decode mX5_wipe.2.1 7 = .ok (.istore_n 1, 1) := by decide +kernel
theorem dX5_wipe_8 : decode mX5_wipe.2.1 8 = .ok (.aload_n 0, 1) := by decide +kernel
theorem dX5_wipe_9 : decode mX5_wipe.2.1 9 = .ok (.getfield 25, 3) := by decide +kernel
theorem dX5_wipe_12 : decode mX5_wipe.2.1 12 = .ok (.iconst 0, 1) := by decide +kernel
theorem dX5_wipe_13 : decode mX5_wipe.2.1 13 = .ok (.putfield 230, 3) := by decide +kernel
theorem dX5_wipe_16 : decode mX5_wipe.2.1 16 = .ok (.iload_n 1, 1) := by decide +kernel
theorem dX5_wipe_17 : decode mX5_wipe.2.1 17 = .ok (.ireturn, 1) := by decide +kernel
theorem dX5_text_0 : decode mX5_text.2.1 0 = .ok (.aload_n 0, 1) := by decide +kernel
theorem dX5_text_1 : decode mX5_text.2.1 1 = .ok (.getfield 19, 3) := by decide +kernel
theorem dX5_text_4 : decode mX5_text.2.1 4 = .ok (.aload_n 0, 1) := by decide +kernel
theorem dX5_text_5 : decode mX5_text.2.1 5 = .ok (.getfield 10, 3) := by decide +kernel
theorem dX5_text_8 : decode mX5_text.2.1 8 = .ok (.invokevirtual 151, 3) := by decide +kernel
theorem dX5_text_11 : decode mX5_text.2.1 11 = .ok (.aload_n 0, 1) := by decide +kernel
theorem dX5_text_12 : decode mX5_text.2.1 12 = .ok (.getfield 34, 3) := by decide +kernel
theorem dX5_text_15 : decode mX5_text.2.1 15 = .ok (.invokevirtual 237, 3) := by decide +kernel
theorem dX5_text_18 : decode mX5_text.2.1 18 = .ok (.istore_n 1, 1) := by decide +kernel
theorem dX5_text_19 : decode mX5_text.2.1 19 = .ok (.iload_n 1, 1) := by decide +kernel
theorem dX5_text_20 : decode mX5_text.2.1 20 = .ok (.ifCond .le 14, 3) := by decide +kernel
theorem dX5_text_23 : decode mX5_text.2.1 23 = .ok (.aload_n 0, 1) := by decide +kernel
theorem dX5_text_24 : decode mX5_text.2.1 24 = .ok (.getfield 10, 3) := by decide +kernel
theorem dX5_text_27 : decode mX5_text.2.1 27 = .ok (.aload_n 0, 1) := by decide +kernel
theorem dX5_text_28 : decode mX5_text.2.1 28 = .ok (.getfield 19, 3) := by decide +kernel
theorem dX5_text_31 : decode mX5_text.2.1 31 = .ok (.invokevirtual 151, 3) := by decide +kernel
theorem dX5_text_34 : decode mX5_text.2.1 34 = .ok (.aload_n 0, 1) := by decide +kernel
theorem dX5_text_35 : decode mX5_text.2.1 35 = .ok (.getfield 25, 3) := by decide +kernel
theorem dX5_text_38 : decode mX5_text.2.1 38 = .ok (.iconst 0, 1) := by decide +kernel
theorem dX5_text_39 : decode mX5_text.2.1 39 = .ok (.putfield 230, 3) := by decide +kernel
theorem dX5_text_42 : decode mX5_text.2.1 42 = .ok (.iload_n 1, 1) := by decide +kernel
theorem dX5_text_43 : decode mX5_text.2.1 43 = .ok (.ireturn, 1) := by decide +kernel
theorem dX5_hold_0 : decode mX5_hold.2.1 0 = .ok (.iload_n 1, 1) := by decide +kernel
theorem dX5_hold_1 : decode mX5_hold.2.1 1 = .ok (.iconst 0, 1) := by decide +kernel
theorem dX5_hold_2 : decode mX5_hold.2.1 2 = .ok (.bipush 9, 2) := by decide +kernel
theorem dX5_hold_4 : decode mX5_hold.2.1 4 = .ok (.invokestatic 53, 3) := by decide +kernel
theorem dX5_hold_7 : decode mX5_hold.2.1 7 = .ok (.ifCond .eq 19, 3) := by decide +kernel
theorem dX5_hold_10 : decode mX5_hold.2.1 10 = .ok (.iload_n 2, 1) := by decide +kernel
theorem dX5_hold_11 : decode mX5_hold.2.1 11 = .ok (.iconst (-1), 1) := by decide +kernel
theorem dX5_hold_12 : decode mX5_hold.2.1 12 = .ok (.if_icmp .eq 20, 3) := by decide +kernel
theorem dX5_hold_15 : decode mX5_hold.2.1 15 = .ok (.aload_n 0, 1) := by decide +kernel
theorem dX5_hold_16 : decode mX5_hold.2.1 16 = .ok (.getfield 10, 3) := by decide +kernel
theorem dX5_hold_19 : decode mX5_hold.2.1 19 = .ok (.iload_n 2, 1) := by decide +kernel
theorem dX5_hold_20 : decode mX5_hold.2.1 20 = .ok (.invokevirtual 78, 3) := by decide +kernel
theorem dX5_hold_23 : decode mX5_hold.2.1 23 = .ok (.ifCond .ne 9, 3) := by decide +kernel
theorem dX5_hold_26 : decode mX5_hold.2.1 26 = .ok (.aload_n 0, 1) := by decide +kernel
theorem dX5_hold_27 : decode mX5_hold.2.1 27 = .ok (.iconst 0, 1) := by decide +kernel
theorem dX5_hold_28 : decode mX5_hold.2.1 28 = .ok (.invokevirtual 57, 3) := by decide +kernel
theorem dX5_hold_31 : decode mX5_hold.2.1 31 = .ok (.ireturn, 1) := by decide +kernel
theorem dX5_hold_32 : decode mX5_hold.2.1 32 = .ok (.aload_n 0, 1) := by decide +kernel
theorem dX5_hold_33 : decode mX5_hold.2.1 33 = .ok (.getfield 10, 3) := by decide +kernel
theorem dX5_hold_36 : decode mX5_hold.2.1 36 = .ok (.getfield 240, 3) := by decide +kernel
theorem dX5_hold_39 : decode mX5_hold.2.1 39 = .ok (.iload_n 1, 1) := by decide +kernel
theorem dX5_hold_40 : decode mX5_hold.2.1 40 = .ok (.iload_n 2, 1) := by decide +kernel
theorem dX5_hold_41 : decode mX5_hold.2.1 41 = .ok (.iastore, 1) := by decide +kernel
theorem dX5_hold_42 : decode mX5_hold.2.1 42 = .ok (.iconst 1, 1) := by decide +kernel
theorem dX5_hold_43 : decode mX5_hold.2.1 43 = .ok (.ireturn, 1) := by decide +kernel
theorem dX5_as_0 : decode mX5_as.2.1 0 = .ok (.iload_n 1, 1) := by decide +kernel
theorem dX5_as_1 : decode mX5_as.2.1 1 = .ok (.iconst 0, 1) := by decide +kernel
theorem dX5_as_2 : decode mX5_as.2.1 2 = .ok (.bipush 9, 2) := by decide +kernel
theorem dX5_as_4 : decode mX5_as.2.1 4 = .ok (.invokestatic 53, 3) := by decide +kernel
theorem dX5_as_7 : decode mX5_as.2.1 7 = .ok (.ifCond .eq 11, 3) := by decide +kernel
theorem dX5_as_10 : decode mX5_as.2.1 10 = .ok (.iconst 0, 1) := by decide +kernel
theorem dX5_as_11 : decode mX5_as.2.1 11 = .ok (.iload_n 2, 1) := by decide +kernel
theorem dX5_as_12 : decode mX5_as.2.1 12 = .ok (.invokestatic 64, 3) := by decide +kernel
theorem dX5_as_15 : decode mX5_as.2.1 15 = .ok (.ifCond .ne 9, 3) := by decide +kernel
theorem dX5_as_18 : decode mX5_as.2.1 18 = .ok (.aload_n 0, 1) := by decide +kernel
theorem dX5_as_19 : decode mX5_as.2.1 19 = .ok (.iconst 0, 1) := by decide +kernel
theorem dX5_as_20 : decode mX5_as.2.1 20 = .ok (.invokevirtual 57, 3) := by decide +kernel
theorem dX5_as_23 : decode mX5_as.2.1 23 = .ok (.ireturn, 1) := by decide +kernel
theorem dX5_as_24 : decode mX5_as.2.1 24 = .ok (.aload_n 0, 1) := by decide +kernel
theorem dX5_as_25 : decode mX5_as.2.1 25 = .ok (.getfield 10, 3) := by decide +kernel
theorem dX5_as_28 : decode mX5_as.2.1 28 = .ok (.getfield 240, 3) := by decide +kernel
theorem dX5_as_31 : decode mX5_as.2.1 31 = .ok (.iload_n 1, 1) := by decide +kernel
theorem dX5_as_32 : decode mX5_as.2.1 32 = .ok (.iaload, 1) := by decide +kernel
theorem dX5_as_33 : decode mX5_as.2.1 33 = .ok (.istore_n 3, 1) := by decide +kernel
theorem dX5_as_34 : decode mX5_as.2.1 34 = .ok (.aload_n 0, 1) := by decide +kernel
theorem dX5_as_35 : decode mX5_as.2.1 35 = .ok (.getfield 10, 3) := by decide +kernel
theorem dX5_as_38 : decode mX5_as.2.1 38 = .ok (.iload_n 3, 1) := by decide +kernel
theorem dX5_as_39 : decode mX5_as.2.1 39 = .ok (.invokevirtual 78, 3) := by decide +kernel
theorem dX5_as_42 : decode mX5_as.2.1 42 = .ok (.ifCond .ne 9, 3) := by decide +kernel
theorem dX5_as_45 : decode mX5_as.2.1 45 = .ok (.aload_n 0, 1) := by decide +kernel
theorem dX5_as_46 : decode mX5_as.2.1 46 = .ok (.iconst 5, 1) := by decide +kernel
theorem dX5_as_47 : decode mX5_as.2.1 47 = .ok (.invokevirtual 57, 3) := by decide +kernel
theorem dX5_as_50 : decode mX5_as.2.1 50 = .ok (.ireturn, 1) := by decide +kernel
theorem dX5_as_51 : decode mX5_as.2.1 51 = .ok (.aload_n 0, 1) := by decide +kernel
theorem dX5_as_52 : decode mX5_as.2.1 52 = .ok (.getfield 10, 3) := by decide +kernel
theorem dX5_as_55 : decode mX5_as.2.1 55 = .ok (.getfield 82, 3) := by decide +kernel
theorem dX5_as_58 : decode mX5_as.2.1 58 = .ok (.iload_n 3, 1) := by decide +kernel
theorem dX5_as_59 : decode mX5_as.2.1 59 = .ok (.aaload, 1) := by decide +kernel
theorem dX5_as_60 : decode mX5_as.2.1 60 = .ok (.iload_n 2, 1) := by decide +kernel
theorem dX5_as_61 : decode mX5_as.2.1 61 = .ok (.invokevirtual 243, 3) := by decide +kernel
theorem dX5_as_64 : decode mX5_as.2.1 64 = .ok (.ifCond .eq 7, 3) := by decide +kernel
theorem dX5_as_67 : decode mX5_as.2.1 67 = .ok (.iload_n 3, 1) := by decide +kernel
theorem dX5_as_68 : decode mX5_as.2.1 68 = .ok (.goto 8, 3) := by decide +kernel
theorem dX5_as_71 : decode mX5_as.2.1 71 = .ok (.aload_n 0, 1) := by decide +kernel
theorem dX5_as_72 : decode mX5_as.2.1 72 = .ok (.iconst 2, 1) := by decide +kernel
theorem dX5_as_73 : decode mX5_as.2.1 73 = .ok (.invokevirtual 57, 3) := by decide +kernel
theorem dX5_as_76 : decode mX5_as.2.1 76 = .ok (.ireturn, 1) := by decide +kernel
theorem dX5_sheet_0 : decode mX5_sheet.2.1 0 = .ok (.iload_n 1, 1) := by decide +kernel
theorem dX5_sheet_1 : decode mX5_sheet.2.1 1 = .ok (.iconst 0, 1) := by decide +kernel
theorem dX5_sheet_2 : decode mX5_sheet.2.1 2 = .ok (.iconst 3, 1) := by decide +kernel
theorem dX5_sheet_3 : decode mX5_sheet.2.1 3 = .ok (.invokestatic 53, 3) := by decide +kernel
theorem dX5_sheet_6 : decode mX5_sheet.2.1 6 = .ok (.ifCond .eq 10, 3) := by decide +kernel
theorem dX5_sheet_9 : decode mX5_sheet.2.1 9 = .ok (.iload_n 2, 1) := by decide +kernel
theorem dX5_sheet_10 : decode mX5_sheet.2.1 10 = .ok (.invokestatic 246, 3) := by decide +kernel
theorem dX5_sheet_13 : decode mX5_sheet.2.1 13 = .ok (.ifCond .ne 9, 3) := by decide +kernel
theorem dX5_sheet_16 : decode mX5_sheet.2.1 16 = .ok (.aload_n 0, 1) := by decide +kernel
theorem dX5_sheet_17 : decode mX5_sheet.2.1 17 = .ok (.iconst 0, 1) := by decide +kernel
theorem dX5_sheet_18 : decode mX5_sheet.2.1 18 = .ok (.invokevirtual 57, 3) := by decide +kernel
theorem dX5_sheet_21 : decode mX5_sheet.2.1 21 = .ok (.ireturn, 1) := by decide +kernel
theorem dX5_sheet_22 : decode mX5_sheet.2.1 22 = .ok (.iload_n 3, 1) := by decide +kernel
theorem dX5_sheet_23 : decode mX5_sheet.2.1 23 = .ok (.ifCond .ge 10, 3) := by decide +kernel
theorem dX5_sheet_26 : decode mX5_sheet.2.1 26 = .ok (.aload_n 0, 1) := by decide +kernel
theorem dX5_sheet_27 : decode mX5_sheet.2.1 27 = .ok (.bipush 6, 2) := by decide +kernel
theorem dX5_sheet_29 : decode mX5_sheet.2.1 29 = .ok (.invokevirtual 57, 3) := by decide +kernel
theorem dX5_sheet_32 : decode mX5_sheet.2.1 32 = .ok (.ireturn, 1) := by decide +kernel
theorem dX5_sheet_33 : decode mX5_sheet.2.1 33 = .ok (.iload_n 3, 1) := by decide +kernel
theorem dX5_sheet_34 : decode mX5_sheet.2.1 34 = .ok (.bipush 40, 2) := by decide +kernel
theorem dX5_sheet_36 : decode mX5_sheet.2.1 36 = .ok (.if_icmp .le 9, 3) := by decide +kernel
theorem dX5_sheet_39 : decode mX5_sheet.2.1 39 = .ok (.aload_n 0, 1) := by decide +kernel
theorem dX5_sheet_40 : decode mX5_sheet.2.1 40 = .ok (.iconst 0, 1) := by decide +kernel
theorem dX5_sheet_41 : decode mX5_sheet.2.1 41 = .ok (.invokevirtual 57, 3) := by decide +kernel
theorem dX5_sheet_44 : decode mX5_sheet.2.1 44 = .ok (.ireturn, 1) := by decide +kernel
theorem dX5_sheet_45 : decode mX5_sheet.2.1 45 = .ok (.aload_n 0, 1) := by decide +kernel
theorem dX5_sheet_46 : decode mX5_sheet.2.1 46 = .ok (.getfield 40, 3) := by decide +kernel
theorem dX5_sheet_49 : decode mX5_sheet.2.1 49 = .ok (.iload_n 1, 1) := by decide +kernel
theorem dX5_sheet_50 : decode mX5_sheet.2.1 50 = .ok (.aaload, 1) := by decide +kernel
theorem dX5_sheet_51 : decode mX5_sheet.2.1 51 = .ok (.iload_n 2, 1) := by decide +kernel
theorem dX5_sheet_52 : decode mX5_sheet.2.1 52 = .ok (.iload_n 3, 1) := by decide +kernel
theorem dX5_sheet_53 : decode mX5_sheet.2.1 53 = .ok (.invokevirtual 249, 3) := by decide +kernel
theorem dX5_sheet_56 : decode mX5_sheet.2.1 56 = .ok (.aload_n 0, 1) := by decide +kernel
theorem dX5_sheet_57 : decode mX5_sheet.2.1 57 = .ok (.getfield 40, 3) := by decide +kernel
theorem dX5_sheet_60 : decode mX5_sheet.2.1 60 = .ok (.iload_n 1, 1) := by decide +kernel
theorem dX5_sheet_61 : decode mX5_sheet.2.1 61 = .ok (.aaload, 1) := by decide +kernel
theorem dX5_sheet_62 : decode mX5_sheet.2.1 62 = .ok (.getfield 214, 3) := by decide +kernel
theorem dX5_sheet_65 : decode mX5_sheet.2.1 65 = .ok (.ireturn, 1) := by decide +kernel
theorem dX5_write_0 : decode mX5_write.2.1 0 = .ok (.aload_n 0, 1) := by decide +kernel
theorem dX5_write_1 : decode mX5_write.2.1 1 = .ok (.iload_n 1, 1) := by decide +kernel
theorem dX5_write_2 : decode mX5_write.2.1 2 = .ok (.invokevirtual 211, 3) := by decide +kernel
theorem dX5_write_5 : decode mX5_write.2.1 5 = .ok (.istore 4, 2) := by decide +kernel
theorem dX5_write_7 : decode mX5_write.2.1 7 = .ok (.iload 4, 2) := by decide +kernel
theorem dX5_write_9 : decode mX5_write.2.1 9 = .ok (.iconst (-1), 1) := by decide +kernel
theorem dX5_write_10 : decode mX5_write.2.1 10 = .ok (.if_icmp .eq 10, 3) := by decide +kernel
theorem dX5_write_13 : decode mX5_write.2.1 13 = .ok (.aload_n 0, 1) := by decide +kernel
theorem dX5_write_14 : decode mX5_write.2.1 14 = .ok (.iload 4, 2) := by decide +kernel
theorem dX5_write_16 : decode mX5_write.2.1 16 = .ok (.invokevirtual 57, 3) := by decide +kernel
theorem dX5_write_19 : decode mX5_write.2.1 19 = .ok (.ireturn, 1) := by decide +kernel
theorem dX5_write_20 : decode mX5_write.2.1 20 = .ok (.iload_n 2, 1) := by decide +kernel
theorem dX5_write_21 : decode mX5_write.2.1 21 = .ok (.iconst 0, 1) := by decide +kernel
theorem dX5_write_22 : decode mX5_write.2.1 22 = .ok (.aload_n 0, 1) := by decide +kernel
theorem dX5_write_23 : decode mX5_write.2.1 23 = .ok (.getfield 40, 3) := by decide +kernel
theorem dX5_write_26 : decode mX5_write.2.1 26 = .ok (.iload_n 1, 1) := by decide +kernel
theorem dX5_write_27 : decode mX5_write.2.1 27 = .ok (.aaload, 1) := by decide +kernel
theorem dX5_write_28 : decode mX5_write.2.1 28 = .ok (.getfield 214, 3) := by decide +kernel
theorem dX5_write_31 : decode mX5_write.2.1 31 = .ok (.iconst 1, 1) := by decide +kernel
theorem dX5_write_32 : decode mX5_write.2.1 32 = .ok (.isub, 1) := by decide +kernel
theorem dX5_write_33 : decode mX5_write.2.1 33 = .ok (.invokestatic 53, 3) := by decide +kernel
theorem dX5_write_36 : decode mX5_write.2.1 36 = .ok (.ifCond .ne 9, 3) := by decide +kernel
theorem dX5_write_39 : decode mX5_write.2.1 39 = .ok (.aload_n 0, 1) := by decide +kernel
theorem dX5_write_40 : decode mX5_write.2.1 40 = .ok (.iconst 0, 1) := by decide +kernel
theorem dX5_write_41 : decode mX5_write.2.1 41 = .ok (.invokevirtual 57, 3) := by decide +kernel
theorem dX5_write_44 : decode mX5_write.2.1 44 = .ok (.ireturn, 1) := by decide +kernel
theorem dX5_write_45 : decode mX5_write.2.1 45 = .ok (.aload_n 0, 1) := by decide +kernel
theorem dX5_write_46 : decode mX5_write.2.1 46 = .ok (.getfield 40, 3) := by decide +kernel
theorem dX5_write_49 : decode mX5_write.2.1 49 = .ok (.iload_n 1, 1) := by decide +kernel
theorem dX5_write_50 : decode mX5_write.2.1 50 = .ok (.aaload, 1) := by decide +kernel
theorem dX5_write_51 : decode mX5_write.2.1 51 = .ok (.iload_n 2, 1) := by decide +kernel
theorem dX5_write_52 : decode mX5_write.2.1 52 = .ok (.iload_n 3, 1) := by decide +kernel
theorem dX5_write_53 : decode mX5_write.2.1 53 = .ok (.invokevirtual 252, 3) := by decide +kernel
theorem dX5_write_56 : decode mX5_write.2.1 56 = .ok (.iconst 1, 1) := by decide +kernel
theorem dX5_write_57 : decode mX5_write.2.1 57 = .ok (.ireturn, 1) := by decide +kernel
theorem dX5_copy_0 : decode mX5_copy.2.1 0 = .ok (.iload_n 1, 1) := by decide +kernel
theorem dX5_copy_1 : decode mX5_copy.2.1 1 = .ok (.iconst 0, 1) := by decide +kernel
theorem dX5_copy_2 : decode mX5_copy.2.1 2 = .ok (.iconst 3, 1) := by decide +kernel
theorem dX5_copy_3 : decode mX5_copy.2.1 3 = .ok (.invokestatic 53, 3) := by decide +kernel
theorem dX5_copy_6 : decode mX5_copy.2.1 6 = .ok (.ifCond .eq 12, 3) := by decide +kernel
theorem dX5_copy_9 : decode mX5_copy.2.1 9 = .ok (.iload_n 3, 1) := by decide +kernel
theorem dX5_copy_10 : decode mX5_copy.2.1 10 = .ok (.iconst 0, 1) := by decide +kernel
theorem dX5_copy_11 : decode mX5_copy.2.1 11 = .ok (.iconst 3, 1) := by decide +kernel
theorem dX5_copy_12 : decode mX5_copy.2.1 12 = .ok (.invokestatic 53, 3) := by decide +kernel
theorem dX5_copy_15 : decode mX5_copy.2.1 15 = .ok (.ifCond .ne 9, 3) := by decide +kernel
theorem dX5_copy_18 : decode mX5_copy.2.1 18 = .ok (.aload_n 0, 1) := by decide +kernel
theorem dX5_copy_19 : decode mX5_copy.2.1 19 = .ok (.iconst 0, 1) := by decide +kernel
theorem dX5_copy_20 : decode mX5_copy.2.1 20 = .ok (.invokevirtual 57, 3) := by decide +kernel
theorem dX5_copy_23 : decode mX5_copy.2.1 23 = .ok (.ireturn, 1) := by decide +kernel
theorem dX5_copy_24 : decode mX5_copy.2.1 24 = .ok (.aload_n 0, 1) := by decide +kernel
theorem dX5_copy_25 : decode mX5_copy.2.1 25 = .ok (.getfield 40, 3) := by decide +kernel
theorem dX5_copy_28 : decode mX5_copy.2.1 28 = .ok (.iload_n 1, 1) := by decide +kernel
theorem dX5_copy_29 : decode mX5_copy.2.1 29 = .ok (.aaload, 1) := by decide +kernel
theorem dX5_copy_30 : decode mX5_copy.2.1 30 = .ok (.astore 6, 2) := by decide +kernel
theorem dX5_copy_32 : decode mX5_copy.2.1 32 = .ok (.aload_n 0, 1) := by decide +kernel
theorem dX5_copy_33 : decode mX5_copy.2.1 33 = .ok (.getfield 40, 3) := by decide +kernel
theorem dX5_copy_36 : decode mX5_copy.2.1 36 = .ok (.iload_n 3, 1) := by decide +kernel
theorem dX5_copy_37 : decode mX5_copy.2.1 37 = .ok (.aaload, 1) := by decide +kernel
theorem dX5_copy_38 : decode mX5_copy.2.1 38 = .ok (.astore 7, 2) := by decide +kernel
theorem dX5_copy_40 : decode mX5_copy.2.1 40 = .ok (.aload 6, 2) := by decide +kernel
theorem dX5_copy_42 : decode mX5_copy.2.1 42 = .ok (.invokevirtual 255, 3) := by decide +kernel
theorem dX5_copy_45 : decode mX5_copy.2.1 45 = .ok (.ifCond .ne 11, 3) := by decide +kernel
theorem dX5_copy_48 : decode mX5_copy.2.1 48 = .ok (.aload 7, 2) := by decide +kernel
theorem dX5_copy_50 : decode mX5_copy.2.1 50 = .ok (.invokevirtual 255, 3) := by decide +kernel
theorem dX5_copy_53 : decode mX5_copy.2.1 53 = .ok (.ifCond .eq 9, 3) := by decide +kernel
theorem dX5_copy_56 : decode mX5_copy.2.1 56 = .ok (.aload_n 0, 1) := by decide +kernel
theorem dX5_copy_57 : decode mX5_copy.2.1 57 = .ok (.iconst 5, 1) := by decide +kernel
theorem dX5_copy_58 : decode mX5_copy.2.1 58 = .ok (.invokevirtual 57, 3) := by decide +kernel
theorem dX5_copy_61 : decode mX5_copy.2.1 61 = .ok (.ireturn, 1) := by decide +kernel
theorem dX5_copy_62 : decode mX5_copy.2.1 62 = .ok (.aload 6, 2) := by decide +kernel
theorem dX5_copy_64 : decode mX5_copy.2.1 64 = .ok (.getfield 258, 3) := by decide +kernel
theorem dX5_copy_67 : decode mX5_copy.2.1 67 = .ok (.aload 7, 2) := by decide +kernel
theorem dX5_copy_69 : decode mX5_copy.2.1 69 = .ok (.getfield 258, 3) := by decide +kernel
theorem dX5_copy_72 : decode mX5_copy.2.1 72 = .ok (.if_icmp .eq 9, 3) := by decide +kernel
theorem dX5_copy_75 : decode mX5_copy.2.1 75 = .ok (.aload_n 0, 1) := by decide +kernel
theorem dX5_copy_76 : decode mX5_copy.2.1 76 = .ok (.iconst 2, 1) := by decide +kernel
theorem dX5_copy_77 : decode mX5_copy.2.1 77 = .ok (.invokevirtual 57, 3) := by decide +kernel
theorem dX5_copy_80 : decode mX5_copy.2.1 80 = .ok (.ireturn, 1) := by decide +kernel
theorem dX5_copy_81 : decode mX5_copy.2.1 81 = .ok (.aload 6, 2) := by decide +kernel
theorem dX5_copy_83 : decode mX5_copy.2.1 83 = .ok (.iload_n 2, 1) := by decide +kernel
theorem dX5_copy_84 : decode mX5_copy.2.1 84 = .ok (.iload 5, 2) := by decide +kernel
theorem dX5_copy_86 : decode mX5_copy.2.1 86 = .ok (.invokevirtual 261, 3) := by decide +kernel
theorem dX5_copy_89 : decode mX5_copy.2.1 89 = .ok (.ifCond .eq 15, 3) := by decide +kernel
theorem dX5_copy_92 : decode mX5_copy.2.1 92 = .ok (.aload 7, 2) := by decide +kernel
theorem dX5_copy_94 : decode mX5_copy.2.1 94 = .ok (.iload 4, 2) := by decide +kernel
theorem dX5_copy_96 : decode mX5_copy.2.1 96 = .ok (.iload 5, 2) := by decide +kernel
theorem dX5_copy_98 : decode mX5_copy.2.1 98 = .ok (.invokevirtual 261, 3) := by decide +kernel
theorem dX5_copy_101 : decode mX5_copy.2.1 101 = .ok (.ifCond .ne 9, 3) := by decide +kernel
theorem dX5_copy_104 : decode mX5_copy.2.1 104 = .ok (.aload_n 0, 1) := by decide +kernel
theorem dX5_copy_105 : decode mX5_copy.2.1 105 = .ok (.iconst 0, 1) := by decide +kernel
theorem dX5_copy_106 : decode mX5_copy.2.1 106 = .ok (.invokevirtual 57, 3) := by decide +kernel
theorem dX5_copy_109 : decode mX5_copy.2.1 109 = .ok (.ireturn, 1) := by decide +kernel
theorem dX5_copy_110 : decode mX5_copy.2.1 110 = .ok (.aload 6, 2) := by decide +kernel
theorem dX5_copy_112 : decode mX5_copy.2.1 112 = .ok (.getfield 217, 3) := by decide +kernel
theorem dX5_copy_115 : decode mX5_copy.2.1 115 = .ok (.iload_n 2, 1) := by decide +kernel
theorem dX5_copy_116 : decode mX5_copy.2.1 116 = .ok (.aload 7, 2) := by decide +kernel
theorem dX5_copy_118 : decode mX5_copy.2.1 118 = .ok (.getfield 217, 3) := by decide +kernel
theorem dX5_copy_121 : decode mX5_copy.2.1 121 = .ok (.iload 4, 2) := by decide +kernel
theorem dX5_copy_123 : decode mX5_copy.2.1 123 = .ok (.iload 5, 2) := by decide +kernel
theorem dX5_copy_125 : decode mX5_copy.2.1 125 = .ok (.invokestatic 264, 3) := by decide +kernel
theorem dX5_copy_128 : decode mX5_copy.2.1 128 = .ok (.iload 5, 2) := by decide +kernel
theorem dX5_copy_130 : decode mX5_copy.2.1 130 = .ok (.ireturn, 1) := by decide +kernel
theorem dX5_load_0 : decode mX5_load.2.1 0 = .ok (.aload_n 0, 1) := by decide +kernel
theorem dX5_load_1 : decode mX5_load.2.1 1 = .ok (.iload_n 1, 1) := by decide +kernel
theorem dX5_load_2 : decode mX5_load.2.1 2 = .ok (.invokevirtual 211, 3) := by decide +kernel
theorem dX5_load_5 : decode mX5_load.2.1 5 = .ok (.istore_n 2, 1) := by decide +kernel
theorem dX5_load_6 : decode mX5_load.2.1 6 = .ok (.iload_n 2, 1) := by decide +kernel
theorem dX5_load_7 : decode mX5_load.2.1 7 = .ok (.iconst (-1), 1) := by decide +kernel
theorem dX5_load_8 : decode mX5_load.2.1 8 = .ok (.if_icmp .eq 9, 3) := by decide +kernel
theorem dX5_load_11 : decode mX5_load.2.1 11 = .ok (.aload_n 0, 1) := by decide +kernel
theorem dX5_load_12 : decode mX5_load.2.1 12 = .ok (.iload_n 2, 1) := by decide +kernel
theorem dX5_load_13 : decode mX5_load.2.1 13 = .ok (.invokevirtual 57, 3) := by decide +kernel
theorem dX5_load_16 : decode mX5_load.2.1 16 = .ok (.ireturn, 1) := by decide +kernel
theorem dX5_load_17 : decode mX5_load.2.1 17 = .ok (.iconst 0, 1) := by decide +kernel
theorem dX5_load_18 : decode mX5_load.2.1 18 = .ok (.istore_n 3, 1) := by decide +kernel
theorem dX5_load_19 : decode mX5_load.2.1 19 = .ok (.aload_n 0, 1) := by decide +kernel
theorem dX5_load_20 : decode mX5_load.2.1 20 = .ok (.getfield 40, 3) := by decide +kernel
theorem dX5_load_23 : decode mX5_load.2.1 23 = .ok (.iload_n 1, 1) := by decide +kernel
theorem dX5_load_24 : decode mX5_load.2.1 24 = .ok (.aaload, 1) := by decide +kernel
theorem dX5_load_25 : decode mX5_load.2.1 25 = .ok (.getfield 214, 3) := by decide +kernel
theorem dX5_load_28 : decode mX5_load.2.1 28 = .ok (.aload_n 0, 1) := by decide +kernel
theorem dX5_load_29 : decode mX5_load.2.1 29 = .ok (.getfield 10, 3) := by decide +kernel
theorem dX5_load_32 : decode mX5_load.2.1 32 = .ok (.getfield 172, 3) := by decide +kernel
theorem dX5_load_35 : decode mX5_load.2.1 35 = .ok (.invokestatic 270, 3) := by decide +kernel
theorem dX5_load_38 : decode mX5_load.2.1 38 = .ok (.istore 4, 2) := by decide +kernel
theorem dX5_load_40 : decode mX5_load.2.1 40 = .ok (.iload_n 3, 1) := by decide +kernel
theorem dX5_load_41 : decode mX5_load.2.1 41 = .ok (.iload 4, 2) := by decide +kernel
theorem dX5_load_43 : decode mX5_load.2.1 43 = .ok (.if_icmp .ge 51, 3) := by decide +kernel
theorem dX5_load_46 : decode mX5_load.2.1 46 = .ok (.iconst 1, 1) := by decide +kernel
theorem dX5_load_47 : decode mX5_load.2.1 47 = .ok (.aload_n 0, 1) := by decide +kernel
theorem dX5_load_48 : decode mX5_load.2.1 48 = .ok (.getfield 40, 3) := by decide +kernel
theorem dX5_load_51 : decode mX5_load.2.1 51 = .ok (.iload_n 1, 1) := by decide +kernel
theorem dX5_load_52 : decode mX5_load.2.1 52 = .ok (.aaload, 1) := by decide +kernel
theorem dX5_load_53 : decode mX5_load.2.1 53 = .ok (.getfield 217, 3) := by decide +kernel
theorem dX5_load_56 : decode mX5_load.2.1 56 = .ok (.iload_n 3, 1) := by decide +kernel
theorem dX5_load_57 : decode mX5_load.2.1 57 = .ok (.iaload, 1) := by decide +kernel
theorem dX5_load_58 : decode mX5_load.2.1 58 = .ok (.invokestatic 64, 3) := by decide +kernel
theorem dX5_load_61 : decode mX5_load.2.1 61 = .ok (.ifCond .eq 33, 3) := by decide +kernel
theorem dX5_load_64 : decode mX5_load.2.1 64 = .ok (.aload_n 0, 1) := by decide +kernel
theorem dX5_load_65 : decode mX5_load.2.1 65 = .ok (.getfield 10, 3) := by decide +kernel
theorem dX5_load_68 : decode mX5_load.2.1 68 = .ok (.getfield 82, 3) := by decide +kernel
theorem dX5_load_71 : decode mX5_load.2.1 71 = .ok (.iload_n 3, 1) := by decide +kernel
theorem dX5_load_72 : decode mX5_load.2.1 72 = .ok (.aaload, 1) := by decide +kernel
theorem dX5_load_73 : decode mX5_load.2.1 73 = .ok (.iconst 1, 1) := by decide +kernel
theorem dX5_load_74 : decode mX5_load.2.1 74 = .ok (.aload_n 0, 1) := by decide +kernel
theorem dX5_load_75 : decode mX5_load.2.1 75 = .ok (.getfield 40, 3) := by decide +kernel
theorem dX5_load_78 : decode mX5_load.2.1 78 = .ok (.iload_n 1, 1) := by decide +kernel
theorem dX5_load_79 : decode mX5_load.2.1 79 = .ok (.aaload, 1) := by decide +kernel
theorem dX5_load_80 : decode mX5_load.2.1 80 = .ok (.getfield 217, 3) := by decide +kernel
theorem dX5_load_83 : decode mX5_load.2.1 83 = .ok (.iload_n 3, 1) := by decide +kernel
theorem dX5_load_84 : decode mX5_load.2.1 84 = .ok (.iaload, 1) := by decide +kernel
theorem dX5_load_85 : decode mX5_load.2.1 85 = .ok (.invokevirtual 103, 3) := by decide +kernel
theorem dX5_load_88 : decode mX5_load.2.1 88 = .ok (.iinc 3 1, 3) := by decide +kernel
theorem dX5_load_91 : decode mX5_load.2.1 91 = .ok (.goto (-51), 3) := by decide +kernel
theorem dX5_load_94 : decode mX5_load.2.1 94 = .ok (.iload_n 3, 1) := by decide +kernel
theorem dX5_load_95 : decode mX5_load.2.1 95 = .ok (.ireturn, 1) := by decide +kernel
theorem dX5_judge_0 : decode mX5_judge.2.1 0 = .ok (.aload_n 0, 1) := by decide +kernel
theorem dX5_judge_1 : decode mX5_judge.2.1 1 = .ok (.iload_n 1, 1) := by decide +kernel
theorem dX5_judge_2 : decode mX5_judge.2.1 2 = .ok (.invokevirtual 211, 3) := by decide +kernel
theorem dX5_judge_5 : decode mX5_judge.2.1 5 = .ok (.istore_n 2, 1) := by decide +kernel
theorem dX5_judge_6 : decode mX5_judge.2.1 6 = .ok (.iload_n 2, 1) := by decide +kernel
theorem dX5_judge_7 : decode mX5_judge.2.1 7 = .ok (.iconst (-1), 1) := by decide +kernel
theorem dX5_judge_8 : decode mX5_judge.2.1 8 = .ok (.if_icmp .eq 9, 3) := by decide +kernel
theorem dX5_judge_11 : decode mX5_judge.2.1 11 = .ok (.aload_n 0, 1) := by decide +kernel
theorem dX5_judge_12 : decode mX5_judge.2.1 12 = .ok (.iload_n 2, 1) := by decide +kernel
theorem dX5_judge_13 : decode mX5_judge.2.1 13 = .ok (.invokevirtual 57, 3) := by decide +kernel
theorem dX5_judge_16 : decode mX5_judge.2.1 16 = .ok (.ireturn, 1) := by decide +kernel
theorem dX5_judge_17 : decode mX5_judge.2.1 17 = .ok (.iconst 0, 1) := by decide +kernel
theorem dX5_judge_18 : decode mX5_judge.2.1 18 = .ok (.istore_n 3, 1) := by decide +kernel
theorem dX5_judge_19 : decode mX5_judge.2.1 19 = .ok (.iload_n 3, 1) := by decide +kernel
theorem dX5_judge_20 : decode mX5_judge.2.1 20 = .ok (.aload_n 0, 1) := by decide +kernel
theorem dX5_judge_21 : decode mX5_judge.2.1 21 = .ok (.getfield 40, 3) := by decide +kernel
theorem dX5_judge_24 : decode mX5_judge.2.1 24 = .ok (.iload_n 1, 1) := by decide +kernel
theorem dX5_judge_25 : decode mX5_judge.2.1 25 = .ok (.aaload, 1) := by decide +kernel
theorem dX5_judge_26 : decode mX5_judge.2.1 26 = .ok (.getfield 214, 3) := by decide +kernel
theorem dX5_judge_29 : decode mX5_judge.2.1 29 = .ok (.if_icmp .ge 59, 3) := by decide +kernel
theorem dX5_judge_32 : decode mX5_judge.2.1 32 = .ok (.aload_n 0, 1) := by decide +kernel
theorem dX5_judge_33 : decode mX5_judge.2.1 33 = .ok (.getfield 10, 3) := by decide +kernel
theorem dX5_judge_36 : decode mX5_judge.2.1 36 = .ok (.iload_n 3, 1) := by decide +kernel
theorem dX5_judge_37 : decode mX5_judge.2.1 37 = .ok (.invokevirtual 78, 3) := by decide +kernel
theorem dX5_judge_40 : decode mX5_judge.2.1 40 = .ok (.ifCond .eq 38, 3) := by decide +kernel
theorem dX5_judge_43 : decode mX5_judge.2.1 43 = .ok (.aload_n 0, 1) := by decide +kernel
theorem dX5_judge_44 : decode mX5_judge.2.1 44 = .ok (.getfield 10, 3) := by decide +kernel
theorem dX5_judge_47 : decode mX5_judge.2.1 47 = .ok (.getfield 82, 3) := by decide +kernel
theorem dX5_judge_50 : decode mX5_judge.2.1 50 = .ok (.iload_n 3, 1) := by decide +kernel
theorem dX5_judge_51 : decode mX5_judge.2.1 51 = .ok (.aaload, 1) := by decide +kernel
theorem dX5_judge_52 : decode mX5_judge.2.1 52 = .ok (.aload_n 0, 1) := by decide +kernel
theorem dX5_judge_53 : decode mX5_judge.2.1 53 = .ok (.getfield 10, 3) := by decide +kernel
theorem dX5_judge_56 : decode mX5_judge.2.1 56 = .ok (.getfield 61, 3) := by decide +kernel
theorem dX5_judge_59 : decode mX5_judge.2.1 59 = .ok (.iconst 0, 1) := by decide +kernel
theorem dX5_judge_60 : decode mX5_judge.2.1 60 = .ok (.iaload, 1) := by decide +kernel
theorem dX5_judge_61 : decode mX5_judge.2.1 61 = .ok (.invokevirtual 93, 3) := by decide +kernel
theorem dX5_judge_64 : decode mX5_judge.2.1 64 = .ok (.aload_n 0, 1) := by decide +kernel
theorem dX5_judge_65 : decode mX5_judge.2.1 65 = .ok (.getfield 40, 3) := by decide +kernel
theorem dX5_judge_68 : decode mX5_judge.2.1 68 = .ok (.iload_n 1, 1) := by decide +kernel
theorem dX5_judge_69 : decode mX5_judge.2.1 69 = .ok (.aaload, 1) := by decide +kernel
theorem dX5_judge_70 : decode mX5_judge.2.1 70 = .ok (.getfield 217, 3) := by decide +kernel
theorem dX5_judge_73 : decode mX5_judge.2.1 73 = .ok (.iload_n 3, 1) := by decide +kernel
theorem dX5_judge_74 : decode mX5_judge.2.1 74 = .ok (.iaload, 1) := by decide +kernel
theorem dX5_judge_75 : decode mX5_judge.2.1 75 = .ok (.if_icmp .eq 7, 3) := by decide +kernel
theorem dX5_judge_78 : decode mX5_judge.2.1 78 = .ok (.iconst 1, 1) := by decide +kernel
theorem dX5_judge_79 : decode mX5_judge.2.1 79 = .ok (.iload_n 3, 1) := by decide +kernel
theorem dX5_judge_80 : decode mX5_judge.2.1 80 = .ok (.iadd, 1) := by decide +kernel
theorem dX5_judge_81 : decode mX5_judge.2.1 81 = .ok (.ireturn, 1) := by decide +kernel
theorem dX5_judge_82 : decode mX5_judge.2.1 82 = .ok (.iinc 3 1, 3) := by decide +kernel
theorem dX5_judge_85 : decode mX5_judge.2.1 85 = .ok (.goto (-66), 3) := by decide +kernel
theorem dX5_judge_88 : decode mX5_judge.2.1 88 = .ok (.iconst 0, 1) := by decide +kernel
theorem dX5_judge_89 : decode mX5_judge.2.1 89 = .ok (.ireturn, 1) := by decide +kernel
theorem dX5_image_0 : decode mX5_image.2.1 0 = .ok (.aload_n 0, 1) := by decide +kernel
theorem dX5_image_1 : decode mX5_image.2.1 1 = .ok (.getfield 16, 3) := by decide +kernel
theorem dX5_image_4 : decode mX5_image.2.1 4 = .ok (.aload_n 0, 1) := by decide +kernel
theorem dX5_image_5 : decode mX5_image.2.1 5 = .ok (.getfield 10, 3) := by decide +kernel
theorem dX5_image_8 : decode mX5_image.2.1 8 = .ok (.invokevirtual 151, 3) := by decide +kernel
theorem dX5_image_11 : decode mX5_image.2.1 11 = .ok (.aload_n 0, 1) := by decide +kernel
theorem dX5_image_12 : decode mX5_image.2.1 12 = .ok (.iconst 1, 1) := by decide +kernel
theorem dX5_image_13 : decode mX5_image.2.1 13 = .ok (.putfield 49, 3) := by decide +kernel
theorem dX5_image_16 : decode mX5_image.2.1 16 = .ok (.iconst 1, 1) := by decide +kernel
theorem dX5_image_17 : decode mX5_image.2.1 17 = .ok (.ireturn, 1) := by decide +kernel
theorem dX5_undo_0 : decode mX5_undo.2.1 0 = .ok (.aload_n 0, 1) := by decide +kernel
theorem dX5_undo_1 : decode mX5_undo.2.1 1 = .ok (.getfield 49, 3) := by decide +kernel
theorem dX5_undo_4 : decode mX5_undo.2.1 4 = .ok (.ifCond .ne 9, 3) := by decide +kernel
theorem dX5_undo_7 : decode mX5_undo.2.1 7 = .ok (.aload_n 0, 1) := by decide +kernel
theorem dX5_undo_8 : decode mX5_undo.2.1 8 = .ok (.iconst 3, 1) := by decide +kernel
theorem dX5_undo_9 : decode mX5_undo.2.1 9 = .ok (.invokevirtual 57, 3) := by decide +kernel
theorem dX5_undo_12 : decode mX5_undo.2.1 12 = .ok (.ireturn, 1) := by decide +kernel
theorem dX5_undo_13 : decode mX5_undo.2.1 13 = .ok (.aload_n 0, 1) := by decide +kernel
theorem dX5_undo_14 : decode mX5_undo.2.1 14 = .ok (.getfield 10, 3) := by decide +kernel
theorem dX5_undo_17 : decode mX5_undo.2.1 17 = .ok (.aload_n 0, 1) := by decide +kernel
theorem dX5_undo_18 : decode mX5_undo.2.1 18 = .ok (.getfield 16, 3) := by decide +kernel
theorem dX5_undo_21 : decode mX5_undo.2.1 21 = .ok (.invokevirtual 151, 3) := by decide +kernel
theorem dX5_undo_24 : decode mX5_undo.2.1 24 = .ok (.aload_n 0, 1) := by decide +kernel
theorem dX5_undo_25 : decode mX5_undo.2.1 25 = .ok (.getfield 10, 3) := by decide +kernel
theorem dX5_undo_28 : decode mX5_undo.2.1 28 = .ok (.getfield 131, 3) := by decide +kernel
theorem dX5_undo_31 : decode mX5_undo.2.1 31 = .ok (.ireturn, 1) := by decide +kernel
theorem dX5_tear_0 : decode mX5_tear.2.1 0 = .ok (.aload_n 0, 1) := by decide +kernel
theorem dX5_tear_1 : decode mX5_tear.2.1 1 = .ok (.getfield 49, 3) := by decide +kernel
theorem dX5_tear_4 : decode mX5_tear.2.1 4 = .ok (.ifCond .eq 7, 3) := by decide +kernel
theorem dX5_tear_7 : decode mX5_tear.2.1 7 = .ok (.iconst 1, 1) := by decide +kernel
theorem dX5_tear_8 : decode mX5_tear.2.1 8 = .ok (.goto 4, 3) := by decide +kernel
theorem dX5_tear_11 : decode mX5_tear.2.1 11 = .ok (.iconst 0, 1) := by decide +kernel
theorem dX5_tear_12 : decode mX5_tear.2.1 12 = .ok (.istore_n 1, 1) := by decide +kernel
theorem dX5_tear_13 : decode mX5_tear.2.1 13 = .ok (.aload_n 0, 1) := by decide +kernel
theorem dX5_tear_14 : decode mX5_tear.2.1 14 = .ok (.iconst 0, 1) := by decide +kernel
theorem dX5_tear_15 : decode mX5_tear.2.1 15 = .ok (.putfield 49, 3) := by decide +kernel
theorem dX5_tear_18 : decode mX5_tear.2.1 18 = .ok (.iload_n 1, 1) := by decide +kernel
theorem dX5_tear_19 : decode mX5_tear.2.1 19 = .ok (.ireturn, 1) := by decide +kernel
theorem dX5_count_0 : decode mX5_count.2.1 0 = .ok (.iload_n 1, 1) := by decide +kernel
theorem dX5_count_1 : decode mX5_count.2.1 1 = .ok (.tableswitch 116 0 7 #[47, 55, 63, 74, 83, 92, 100, 108], 47) := by decide +kernel
theorem dX5_count_48 : decode mX5_count.2.1 48 = .ok (.aload_n 0, 1) := by decide +kernel
theorem dX5_count_49 : decode mX5_count.2.1 49 = .ok (.getfield 10, 3) := by decide +kernel
theorem dX5_count_52 : decode mX5_count.2.1 52 = .ok (.getfield 131, 3) := by decide +kernel
theorem dX5_count_55 : decode mX5_count.2.1 55 = .ok (.ireturn, 1) := by decide +kernel
theorem dX5_count_56 : decode mX5_count.2.1 56 = .ok (.aload_n 0, 1) := by decide +kernel
theorem dX5_count_57 : decode mX5_count.2.1 57 = .ok (.getfield 10, 3) := by decide +kernel
theorem dX5_count_60 : decode mX5_count.2.1 60 = .ok (.getfield 172, 3) := by decide +kernel
theorem dX5_count_63 : decode mX5_count.2.1 63 = .ok (.ireturn, 1) := by decide +kernel
theorem dX5_count_64 : decode mX5_count.2.1 64 = .ok (.aload_n 0, 1) := by decide +kernel
theorem dX5_count_65 : decode mX5_count.2.1 65 = .ok (.getfield 10, 3) := by decide +kernel
theorem dX5_count_68 : decode mX5_count.2.1 68 = .ok (.invokevirtual 110, 3) := by decide +kernel
theorem dX5_count_71 : decode mX5_count.2.1 71 = .ok (.invokestatic 158, 3) := by decide +kernel
theorem dX5_count_74 : decode mX5_count.2.1 74 = .ok (.ireturn, 1) := by decide +kernel
theorem dX5_count_75 : decode mX5_count.2.1 75 = .ok (.aload_n 0, 1) := by decide +kernel
theorem dX5_count_76 : decode mX5_count.2.1 76 = .ok (.getfield 10, 3) := by decide +kernel
theorem dX5_count_79 : decode mX5_count.2.1 79 = .ok (.iconst 2, 1) := by decide +kernel
theorem dX5_count_80 : decode mX5_count.2.1 80 = .ok (.invokevirtual 138, 3) := by decide +kernel
theorem dX5_count_83 : decode mX5_count.2.1 83 = .ok (.ireturn, 1) := by decide +kernel
theorem dX5_count_84 : decode mX5_count.2.1 84 = .ok (.aload_n 0, 1) := by decide +kernel
theorem dX5_count_85 : decode mX5_count.2.1 85 = .ok (.getfield 10, 3) := by decide +kernel
theorem dX5_count_88 : decode mX5_count.2.1 88 = .ok (.iconst 3, 1) := by decide +kernel
theorem dX5_count_89 : decode mX5_count.2.1 89 = .ok (.invokevirtual 138, 3) := by decide +kernel
theorem dX5_count_92 : decode mX5_count.2.1 92 = .ok (.ireturn, 1) := by decide +kernel
theorem dX5_count_93 : decode mX5_count.2.1 93 = .ok (.aload_n 0, 1) := by decide +kernel
theorem dX5_count_94 : decode mX5_count.2.1 94 = .ok (.getfield 25, 3) := by decide +kernel
theorem dX5_count_97 : decode mX5_count.2.1 97 = .ok (.getfield 230, 3) := by decide +kernel
theorem dX5_count_100 : decode mX5_count.2.1 100 = .ok (.ireturn, 1) := by decide +kernel
theorem dX5_count_101 : decode mX5_count.2.1 101 = .ok (.aload_n 0, 1) := by decide +kernel
theorem dX5_count_102 : decode mX5_count.2.1 102 = .ok (.getfield 10, 3) := by decide +kernel
theorem dX5_count_105 : decode mX5_count.2.1 105 = .ok (.getfield 227, 3) := by decide +kernel
theorem dX5_count_108 : decode mX5_count.2.1 108 = .ok (.ireturn, 1) := by decide +kernel
theorem dX5_count_109 : decode mX5_count.2.1 109 = .ok (.aload_n 0, 1) := by decide +kernel
theorem dX5_count_110 : decode mX5_count.2.1 110 = .ok (.getfield 10, 3) := by decide +kernel
theorem dX5_count_113 : decode mX5_count.2.1 113 = .ok (.invokevirtual 273, 3) := by decide +kernel
theorem dX5_count_116 : decode mX5_count.2.1 116 = .ok (.ireturn, 1) := by decide +kernel
theorem dX5_count_117 : decode mX5_count.2.1 117 = .ok (.aload_n 0, 1) := by decide +kernel
theorem dX5_count_118 : decode mX5_count.2.1 118 = .ok (.iconst 0, 1) := by decide +kernel
theorem dX5_count_119 : decode mX5_count.2.1 119 = .ok (.invokevirtual 57, 3) := by decide +kernel
theorem dX5_count_122 : decode mX5_count.2.1 122 = .ok (.ireturn, 1) := by decide +kernel
theorem dX5_status_0 : decode mX5_status.2.1 0 = .ok (.iload_n 1, 1) := by decide +kernel
theorem dX5_status_1 : decode mX5_status.2.1 1 = .ok (.iconst (-1), 1) := by decide +kernel
theorem dX5_status_2 : decode mX5_status.2.1 2 = .ok (.bipush 6, 2) := by decide +kernel
theorem dX5_status_4 : decode mX5_status.2.1 4 = .ok (.invokestatic 53, 3) := by decide +kernel
theorem dX5_status_7 : decode mX5_status.2.1 7 = .ok (.ifCond .ne 9, 3) := by decide +kernel
theorem dX5_status_10 : decode mX5_status.2.1 10 = .ok (.aload_n 0, 1) := by decide +kernel
theorem dX5_status_11 : decode mX5_status.2.1 11 = .ok (.iconst 0, 1) := by decide +kernel
theorem dX5_status_12 : decode mX5_status.2.1 12 = .ok (.invokevirtual 57, 3) := by decide +kernel
theorem dX5_status_15 : decode mX5_status.2.1 15 = .ok (.ireturn, 1) := by decide +kernel
theorem dX5_status_16 : decode mX5_status.2.1 16 = .ok (.iload_n 1, 1) := by decide +kernel
theorem dX5_status_17 : decode mX5_status.2.1 17 = .ok (.ifCond .lt 10, 3) := by decide +kernel
theorem dX5_status_20 : decode mX5_status.2.1 20 = .ok (.aload_n 0, 1) := by decide +kernel
theorem dX5_status_21 : decode mX5_status.2.1 21 = .ok (.getfield 45, 3) := by decide +kernel
theorem dX5_status_24 : decode mX5_status.2.1 24 = .ok (.iload_n 1, 1) := by decide +kernel
theorem dX5_status_25 : decode mX5_status.2.1 25 = .ok (.iaload, 1) := by decide +kernel
theorem dX5_status_26 : decode mX5_status.2.1 26 = .ok (.ireturn, 1) := by decide +kernel
theorem dX5_status_27 : decode mX5_status.2.1 27 = .ok (.iconst 0, 1) := by decide +kernel
theorem dX5_status_28 : decode mX5_status.2.1 28 = .ok (.istore_n 2, 1) := by decide +kernel
theorem dX5_status_29 : decode mX5_status.2.1 29 = .ok (.iconst 0, 1) := by decide +kernel
theorem dX5_status_30 : decode mX5_status.2.1 30 = .ok (.istore_n 3, 1) := by decide +kernel
theorem dX5_status_31 : decode mX5_status.2.1 31 = .ok (.iload_n 3, 1) := by decide +kernel
theorem dX5_status_32 : decode mX5_status.2.1 32 = .ok (.bipush 7, 2) := by decide +kernel
theorem dX5_status_34 : decode mX5_status.2.1 34 = .ok (.if_icmp .ge 18, 3) := by decide +kernel
theorem dX5_status_37 : decode mX5_status.2.1 37 = .ok (.iload_n 2, 1) := by decide +kernel
theorem dX5_status_38 : decode mX5_status.2.1 38 = .ok (.aload_n 0, 1) := by decide +kernel
theorem dX5_status_39 : decode mX5_status.2.1 39 = .ok (.getfield 45, 3) := by decide +kernel
theorem dX5_status_42 : decode mX5_status.2.1 42 = .ok (.iload_n 3, 1) := by decide +kernel
theorem dX5_status_43 : decode mX5_status.2.1 43 = .ok (.iaload, 1) := by decide +kernel
theorem dX5_status_44 : decode mX5_status.2.1 44 = .ok (.iadd, 1) := by decide +kernel
theorem dX5_status_45 : decode mX5_status.2.1 45 = .ok (.istore_n 2, 1) := by decide +kernel
theorem dX5_status_46 : decode mX5_status.2.1 46 = .ok (.iinc 3 1, 3) := by decide +kernel
theorem dX5_status_49 : decode mX5_status.2.1 49 = .ok (.goto (-18), 3) := by decide +kernel
theorem dX5_status_52 : decode mX5_status.2.1 52 = .ok (.iload_n 2, 1) := by decide +kernel
theorem dX5_status_53 : decode mX5_status.2.1 53 = .ok (.ireturn, 1) := by decide +kernel
theorem dX5_finding_0 : decode mX5_finding.2.1 0 = .ok (.iload_n 1, 1) := by decide +kernel
theorem dX5_finding_1 : decode mX5_finding.2.1 1 = .ok (.iconst 0, 1) := by decide +kernel
theorem dX5_finding_2 : decode mX5_finding.2.1 2 = .ok (.bipush 6, 2) := by decide +kernel
theorem dX5_finding_4 : decode mX5_finding.2.1 4 = .ok (.invokestatic 53, 3) := by decide +kernel
theorem dX5_finding_7 : decode mX5_finding.2.1 7 = .ok (.ifCond .eq 13, 3) := by decide +kernel
theorem dX5_finding_10 : decode mX5_finding.2.1 10 = .ok (.aload_n 0, 1) := by decide +kernel
theorem dX5_finding_11 : decode mX5_finding.2.1 11 = .ok (.getfield 45, 3) := by decide +kernel
theorem dX5_finding_14 : decode mX5_finding.2.1 14 = .ok (.iload_n 1, 1) := by decide +kernel
theorem dX5_finding_15 : decode mX5_finding.2.1 15 = .ok (.dup2, 1) := by decide +kernel
theorem dX5_finding_16 : decode mX5_finding.2.1 16 = .ok (.iaload, 1) := by decide +kernel
theorem dX5_finding_17 : decode mX5_finding.2.1 17 = .ok (.iconst 1, 1) := by decide +kernel
theorem dX5_finding_18 : decode mX5_finding.2.1 18 = .ok (.iadd, 1) := by decide +kernel
theorem dX5_finding_19 : decode mX5_finding.2.1 19 = .ok (.iastore, 1) := by decide +kernel
theorem dX5_finding_20 : decode mX5_finding.2.1 20 = .ok (.ldc_w 276, 3) := by decide +kernel
theorem dX5_finding_23 : decode mX5_finding.2.1 23 = .ok (.iload_n 1, 1) := by decide +kernel
theorem dX5_finding_24 : decode mX5_finding.2.1 24 = .ok (.isub, 1) := by decide +kernel
theorem dX5_finding_25 : decode mX5_finding.2.1 25 = .ok (.ireturn, 1) := by decide +kernel
theorem dX5_refusalOfSheet_0 : decode mX5_refusalOfSheet.2.1 0 = .ok (.iload_n 1, 1) := by decide +kernel
theorem dX5_refusalOfSheet_1 : decode mX5_refusalOfSheet.2.1 1 = .ok (.iconst 0, 1) := by decide +kernel
theorem dX5_refusalOfSheet_2 : decode mX5_refusalOfSheet.2.1 2 = .ok (.iconst 3, 1) := by decide +kernel
theorem dX5_refusalOfSheet_3 : decode mX5_refusalOfSheet.2.1 3 = .ok (.invokestatic 53, 3) := by decide +kernel
theorem dX5_refusalOfSheet_6 : decode mX5_refusalOfSheet.2.1 6 = .ok (.ifCond .ne 5, 3) := by decide +kernel
theorem dX5_refusalOfSheet_9 : decode mX5_refusalOfSheet.2.1 9 = .ok (.iconst 0, 1) := by decide +kernel
theorem dX5_refusalOfSheet_10 : decode mX5_refusalOfSheet.2.1 10 = .ok (.ireturn, 1) := by decide +kernel
theorem dX5_refusalOfSheet_11 : decode mX5_refusalOfSheet.2.1 11 = .ok (.aload_n 0, 1) := by decide +kernel
theorem dX5_refusalOfSheet_12 : decode mX5_refusalOfSheet.2.1 12 = .ok (.getfield 40, 3) := by decide +kernel
theorem dX5_refusalOfSheet_15 : decode mX5_refusalOfSheet.2.1 15 = .ok (.iload_n 1, 1) := by decide +kernel
theorem dX5_refusalOfSheet_16 : decode mX5_refusalOfSheet.2.1 16 = .ok (.aaload, 1) := by decide +kernel
theorem dX5_refusalOfSheet_17 : decode mX5_refusalOfSheet.2.1 17 = .ok (.invokevirtual 255, 3) := by decide +kernel
theorem dX5_refusalOfSheet_20 : decode mX5_refusalOfSheet.2.1 20 = .ok (.ifCond .eq 7, 3) := by decide +kernel
theorem dX5_refusalOfSheet_23 : decode mX5_refusalOfSheet.2.1 23 = .ok (.iconst 5, 1) := by decide +kernel
theorem dX5_refusalOfSheet_24 : decode mX5_refusalOfSheet.2.1 24 = .ok (.goto 4, 3) := by decide +kernel
theorem dX5_refusalOfSheet_27 : decode mX5_refusalOfSheet.2.1 27 = .ok (.iconst (-1), 1) := by decide +kernel
theorem dX5_refusalOfSheet_28 : decode mX5_refusalOfSheet.2.1 28 = .ok (.ireturn, 1) := by decide +kernel
theorem dX5_trialBehind_0 : decode mX5_trialBehind.2.1 0 = .ok (.aload_n 0, 1) := by decide +kernel
theorem dX5_trialBehind_1 : decode mX5_trialBehind.2.1 1 = .ok (.getfield 19, 3) := by decide +kernel
theorem dX5_trialBehind_4 : decode mX5_trialBehind.2.1 4 = .ok (.aload_n 0, 1) := by decide +kernel
theorem dX5_trialBehind_5 : decode mX5_trialBehind.2.1 5 = .ok (.getfield 10, 3) := by decide +kernel
theorem dX5_trialBehind_8 : decode mX5_trialBehind.2.1 8 = .ok (.invokevirtual 151, 3) := by decide +kernel
theorem dX5_trialBehind_11 : decode mX5_trialBehind.2.1 11 = .ok (.iconst 0, 1) := by decide +kernel
theorem dX5_trialBehind_12 : decode mX5_trialBehind.2.1 12 = .ok (.istore_n 2, 1) := by decide +kernel
theorem dX5_trialBehind_13 : decode mX5_trialBehind.2.1 13 = .ok (.iload_n 2, 1) := by decide +kernel
theorem dX5_trialBehind_14 : decode mX5_trialBehind.2.1 14 = .ok (.iload_n 1, 1) := by decide +kernel
theorem dX5_trialBehind_15 : decode mX5_trialBehind.2.1 15 = .ok (.if_icmp .ge 16, 3) := by decide +kernel
theorem dX5_trialBehind_18 : decode mX5_trialBehind.2.1 18 = .ok (.aload_n 0, 1) := by decide +kernel
theorem dX5_trialBehind_19 : decode mX5_trialBehind.2.1 19 = .ok (.getfield 19, 3) := by decide +kernel
theorem dX5_trialBehind_22 : decode mX5_trialBehind.2.1 22 = .ok (.invokevirtual 135, 3) := by decide +kernel
theorem dX5_trialBehind_25 : decode mX5_trialBehind.2.1 25 = .ok (.iinc 2 1, 3) := by decide +kernel
theorem dX5_trialBehind_28 : decode mX5_trialBehind.2.1 28 = .ok (.goto (-15), 3) := by decide +kernel
theorem dX5_trialBehind_31 : decode mX5_trialBehind.2.1 31 = .ok (.aload_n 0, 1) := by decide +kernel
theorem dX5_trialBehind_32 : decode mX5_trialBehind.2.1 32 = .ok (.getfield 19, 3) := by decide +kernel
theorem dX5_trialBehind_35 : decode mX5_trialBehind.2.1 35 = .ok (.areturn, 1) := by decide +kernel
theorem dX5_isQuestion_0 : decode mX5_isQuestion.2.1 0 = .ok (.iload_n 0, 1) := by decide +kernel
theorem dX5_isQuestion_1 : decode mX5_isQuestion.2.1 1 = .ok (.bipush (-99), 2) := by decide +kernel
theorem dX5_isQuestion_3 : decode mX5_isQuestion.2.1 3 = .ok (.bipush 99, 2) := by decide +kernel
theorem dX5_isQuestion_5 : decode mX5_isQuestion.2.1 5 = .ok (.invokestatic 53, 3) := by decide +kernel
theorem dX5_isQuestion_8 : decode mX5_isQuestion.2.1 8 = .ok (.ireturn, 1) := by decide +kernel
theorem dX5_isAhead_0 : decode mX5_isAhead.2.1 0 = .ok (.iload_n 0, 1) := by decide +kernel
theorem dX5_isAhead_1 : decode mX5_isAhead.2.1 1 = .ok (.iconst 0, 1) := by decide +kernel
theorem dX5_isAhead_2 : decode mX5_isAhead.2.1 2 = .ok (.bipush 60, 2) := by decide +kernel
theorem dX5_isAhead_4 : decode mX5_isAhead.2.1 4 = .ok (.invokestatic 53, 3) := by decide +kernel
theorem dX5_isAhead_7 : decode mX5_isAhead.2.1 7 = .ok (.ireturn, 1) := by decide +kernel
theorem dX5_isIn_0 : decode mX5_isIn.2.1 0 = .ok (.iload_n 0, 1) := by decide +kernel
theorem dX5_isIn_1 : decode mX5_isIn.2.1 1 = .ok (.iload_n 1, 1) := by decide +kernel
theorem dX5_isIn_2 : decode mX5_isIn.2.1 2 = .ok (.ishr, 1) := by decide +kernel
theorem dX5_isIn_3 : decode mX5_isIn.2.1 3 = .ok (.iconst 1, 1) := by decide +kernel
theorem dX5_isIn_4 : decode mX5_isIn.2.1 4 = .ok (.iand, 1) := by decide +kernel
theorem dX5_isIn_5 : decode mX5_isIn.2.1 5 = .ok (.iconst 1, 1) := by decide +kernel
theorem dX5_isIn_6 : decode mX5_isIn.2.1 6 = .ok (.if_icmp .ne 7, 3) := by decide +kernel
theorem dX5_isIn_9 : decode mX5_isIn.2.1 9 = .ok (.iconst 1, 1) := by decide +kernel
theorem dX5_isIn_10 : decode mX5_isIn.2.1 10 = .ok (.goto 4, 3) := by decide +kernel
theorem dX5_isIn_13 : decode mX5_isIn.2.1 13 = .ok (.iconst 0, 1) := by decide +kernel
theorem dX5_isIn_14 : decode mX5_isIn.2.1 14 = .ok (.ireturn, 1) := by decide +kernel
theorem dX5_within_0 : decode mX5_within.2.1 0 = .ok (.iload_n 0, 1) := by decide +kernel
theorem dX5_within_1 : decode mX5_within.2.1 1 = .ok (.iload_n 1, 1) := by decide +kernel
theorem dX5_within_2 : decode mX5_within.2.1 2 = .ok (.if_icmp .lt 12, 3) := by decide +kernel
theorem dX5_within_5 : decode mX5_within.2.1 5 = .ok (.iload_n 0, 1) := by decide +kernel
theorem dX5_within_6 : decode mX5_within.2.1 6 = .ok (.iload_n 2, 1) := by decide +kernel
theorem dX5_within_7 : decode mX5_within.2.1 7 = .ok (.if_icmp .gt 7, 3) := by decide +kernel
theorem dX5_within_10 : decode mX5_within.2.1 10 = .ok (.iconst 1, 1) := by decide +kernel
theorem dX5_within_11 : decode mX5_within.2.1 11 = .ok (.goto 4, 3) := by decide +kernel
theorem dX5_within_14 : decode mX5_within.2.1 14 = .ok (.iconst 0, 1) := by decide +kernel
theorem dX5_within_15 : decode mX5_within.2.1 15 = .ok (.ireturn, 1) := by decide +kernel
end
section
/-! decode rows -/
theorem dX6_isIn_0 : decode mX6_isIn.2.1 0 = .ok (.lload_n 0, 1) := by decide +kernel
theorem dX6_isIn_1 : decode mX6_isIn.2.1 1 = .ok (.lload_n 2, 1) := by decide +kernel
theorem dX6_isIn_2 : decode mX6_isIn.2.1 2 = .ok (.lcmp, 1) := by decide +kernel
theorem dX6_isIn_3 : decode mX6_isIn.2.1 3 = .ok (.ifCond .lt 14, 3) := by decide +kernel
theorem dX6_isIn_6 : decode mX6_isIn.2.1 6 = .ok (.lload_n 0, 1) := by decide +kernel
theorem dX6_isIn_7 : decode mX6_isIn.2.1 7 = .ok (.lload 4, 2) := by decide +kernel
theorem dX6_isIn_9 : decode mX6_isIn.2.1 9 = .ok (.lcmp, 1) := by decide +kernel
theorem dX6_isIn_10 : decode mX6_isIn.2.1 10 = .ok (.ifCond .gt 7, 3) := by decide +kernel
theorem dX6_isIn_13 : decode mX6_isIn.2.1 13 = .ok (.iconst 1, 1) := by decide +kernel
theorem dX6_isIn_14 : decode mX6_isIn.2.1 14 = .ok (.goto 4, 3) := by decide +kernel
theorem dX6_isIn_17 : decode mX6_isIn.2.1 17 = .ok (.iconst 0, 1) := by decide +kernel
theorem dX6_isIn_18 : decode mX6_isIn.2.1 18 = .ok (.ireturn, 1) := by decide +kernel
theorem dX6_finds_0 : decode mX6_finds.2.1 0 = .ok (.aload_n 0, 1) := by decide +kernel
theorem dX6_finds_1 : decode mX6_finds.2.1 1 = .ok (.getfield 22, 3) := by decide +kernel
theorem dX6_finds_4 : decode mX6_finds.2.1 4 = .ok (.iconst 0, 1) := by decide +kernel
theorem dX6_finds_5 : decode mX6_finds.2.1 5 = .ok (.dup2, 1) := by decide +kernel
theorem dX6_finds_6 : decode mX6_finds.2.1 6 = .ok (.iaload, 1) := by decide +kernel
theorem dX6_finds_7 : decode mX6_finds.2.1 7 = .ok (.iconst 1, 1) := by decide +kernel
theorem dX6_finds_8 : decode mX6_finds.2.1 8 = .ok (.iadd, 1) := by decide +kernel
theorem dX6_finds_9 : decode mX6_finds.2.1 9 = .ok (.iastore, 1) := by decide +kernel
theorem dX6_finds_10 : decode mX6_finds.2.1 10 = .ok (.aload_n 0, 1) := by decide +kernel
theorem dX6_finds_11 : decode mX6_finds.2.1 11 = .ok (.getfield 22, 3) := by decide +kernel
theorem dX6_finds_14 : decode mX6_finds.2.1 14 = .ok (.ldc 43, 2) := by decide +kernel
theorem dX6_finds_16 : decode mX6_finds.2.1 16 = .ok (.iload_n 1, 1) := by decide +kernel
theorem dX6_finds_17 : decode mX6_finds.2.1 17 = .ok (.isub, 1) := by decide +kernel
theorem dX6_finds_18 : decode mX6_finds.2.1 18 = .ok (.iconst 1, 1) := by decide +kernel
theorem dX6_finds_19 : decode mX6_finds.2.1 19 = .ok (.iadd, 1) := by decide +kernel
theorem dX6_finds_20 : decode mX6_finds.2.1 20 = .ok (.dup2, 1) := by decide +kernel
theorem dX6_finds_21 : decode mX6_finds.2.1 21 = .ok (.iaload, 1) := by decide +kernel
theorem dX6_finds_22 : decode mX6_finds.2.1 22 = .ok (.iconst 1, 1) := by decide +kernel
theorem dX6_finds_23 : decode mX6_finds.2.1 23 = .ok (.iadd, 1) := by decide +kernel
theorem dX6_finds_24 : decode mX6_finds.2.1 24 = .ok (.iastore, 1) := by decide +kernel
theorem dX6_finds_25 : decode mX6_finds.2.1 25 = .ok (.iload_n 1, 1) := by decide +kernel
theorem dX6_finds_26 : decode mX6_finds.2.1 26 = .ok (.ireturn, 1) := by decide +kernel
theorem dX6_becomes_0 : decode mX6_becomes.2.1 0 = .ok (.aload_n 0, 1) := by decide +kernel
theorem dX6_becomes_1 : decode mX6_becomes.2.1 1 = .ok (.getfield 7, 3) := by decide +kernel
theorem dX6_becomes_4 : decode mX6_becomes.2.1 4 = .ok (.iload_n 1, 1) := by decide +kernel
theorem dX6_becomes_5 : decode mX6_becomes.2.1 5 = .ok (.iaload, 1) := by decide +kernel
theorem dX6_becomes_6 : decode mX6_becomes.2.1 6 = .ok (.istore_n 3, 1) := by decide +kernel
theorem dX6_becomes_7 : decode mX6_becomes.2.1 7 = .ok (.aload_n 0, 1) := by decide +kernel
theorem dX6_becomes_8 : decode mX6_becomes.2.1 8 = .ok (.getfield 7, 3) := by decide +kernel
theorem dX6_becomes_11 : decode mX6_becomes.2.1 11 = .ok (.iload_n 1, 1) := by decide +kernel
theorem dX6_becomes_12 : decode mX6_becomes.2.1 12 = .ok (.iload_n 2, 1) := by decide +kernel
theorem dX6_becomes_13 : decode mX6_becomes.2.1 13 = .ok (.iastore, 1) := by decide +kernel
theorem dX6_becomes_14 : decode mX6_becomes.2.1 14 = .ok (.iload_n 3, 1) := by decide +kernel
theorem dX6_becomes_15 : decode mX6_becomes.2.1 15 = .ok (.ireturn, 1) := by decide +kernel
theorem dX6_copyRow_0 : decode mX6_copyRow.2.1 0 = .ok (.iconst 0, 1) := by decide +kernel
theorem dX6_copyRow_1 : decode mX6_copyRow.2.1 1 = .ok (.istore_n 2, 1) := by decide +kernel
theorem dX6_copyRow_2 : decode mX6_copyRow.2.1 2 = .ok (.iload_n 2, 1) := by decide +kernel
theorem dX6_copyRow_3 : decode mX6_copyRow.2.1 3 = .ok (.bipush 56, 2) := by decide +kernel
theorem dX6_copyRow_5 : decode mX6_copyRow.2.1 5 = .ok (.if_icmp .ge 15, 3) := by decide +kernel
theorem dX6_copyRow_8 : decode mX6_copyRow.2.1 8 = .ok (.aload_n 1, 1) := by decide +kernel
theorem dX6_copyRow_9 : decode mX6_copyRow.2.1 9 = .ok (.iload_n 2, 1) := by decide +kernel
theorem dX6_copyRow_10 : decode mX6_copyRow.2.1 10 = .ok (.aload_n 0, 1) := by decide +kernel
theorem dX6_copyRow_11 : decode mX6_copyRow.2.1 11 = .ok (.iload_n 2, 1) := by decide +kernel
theorem dX6_copyRow_12 : decode mX6_copyRow.2.1 12 = .ok (.iaload, 1) := by decide +kernel
theorem dX6_copyRow_13 : decode mX6_copyRow.2.1 13 = .ok (.iastore, 1) := by decide +kernel
theorem dX6_copyRow_14 : decode mX6_copyRow.2.1 14 = .ok (.iinc 2 1, 3) := by decide +kernel
theorem dX6_copyRow_17 : decode mX6_copyRow.2.1 17 = .ok (.goto (-15), 3) := by decide +kernel
theorem dX6_copyRow_20 : decode mX6_copyRow.2.1 20 = .ok (.return_, 1) := by decide +kernel
theorem dX6_isFarm_0 : decode mX6_isFarm.2.1 0 = .ok (.iload_n 1, 1) := by decide +kernel
theorem dX6_isFarm_1 : decode mX6_isFarm.2.1 1 = .ok (.ifCond .lt 17, 3) := by decide +kernel
theorem dX6_isFarm_4 : decode mX6_isFarm.2.1 4 = .ok (.iload_n 1, 1) := by decide +kernel
theorem dX6_isFarm_5 : decode mX6_isFarm.2.1 5 = .ok (.aload_n 0, 1) := by decide +kernel
theorem dX6_isFarm_6 : decode mX6_isFarm.2.1 6 = .ok (.getfield 7, 3) := by decide +kernel
theorem dX6_isFarm_9 : decode mX6_isFarm.2.1 9 = .ok (.iconst 0, 1) := by decide +kernel
theorem dX6_isFarm_10 : decode mX6_isFarm.2.1 10 = .ok (.iaload, 1) := by decide +kernel
theorem dX6_isFarm_11 : decode mX6_isFarm.2.1 11 = .ok (.if_icmp .ge 7, 3) := by decide +kernel
theorem dX6_isFarm_14 : decode mX6_isFarm.2.1 14 = .ok (.iconst 1, 1) := by decide +kernel
theorem dX6_isFarm_15 : decode mX6_isFarm.2.1 15 = .ok (.goto 4, 3) := by decide +kernel
theorem dX6_isFarm_18 : decode mX6_isFarm.2.1 18 = .ok (.iconst 0, 1) := by decide +kernel
theorem dX6_isFarm_19 : decode mX6_isFarm.2.1 19 = .ok (.ireturn, 1) := by decide +kernel
theorem dX6_its_0 : decode mX6_its.2.1 0 = .ok (.aload_n 0, 1) := by decide +kernel
theorem dX6_its_1 : decode mX6_its.2.1 1 = .ok (.getfield 7, 3) := by decide +kernel
theorem dX6_its_4 : decode mX6_its.2.1 4 = .ok (.bipush 6, 2) := by decide +kernel
theorem dX6_its_6 : decode mX6_its.2.1 6 = .ok (.iconst 5, 1) := by decide +kernel
theorem dX6_its_7 : decode mX6_its.2.1 7 = .ok (.iload_n 1, 1) := by decide +kernel
theorem dX6_its_8 : decode mX6_its.2.1 8 = .ok (.imul, 1) := by decide +kernel
theorem dX6_its_9 : decode mX6_its.2.1 9 = .ok (.iadd, 1) := by decide +kernel
theorem dX6_its_10 : decode mX6_its.2.1 10 = .ok (.iload_n 2, 1) := by decide +kernel
theorem dX6_its_11 : decode mX6_its.2.1 11 = .ok (.iadd, 1) := by decide +kernel
theorem dX6_its_12 : decode mX6_its.2.1 12 = .ok (.iaload, 1) := by decide +kernel
theorem dX6_its_13 : decode mX6_its.2.1 13 = .ok (.ireturn, 1) := by decide +kernel
theorem dX6_least_0 : decode mX6_least.2.1 0 = .ok (.iload_n 0, 1) := by decide +kernel
theorem dX6_least_1 : decode mX6_least.2.1 1 = .ok (.iload_n 1, 1) := by decide +kernel
theorem dX6_least_2 : decode mX6_least.2.1 2 = .ok (.if_icmp .ge 7, 3) := by decide +kernel
theorem dX6_least_5 : decode mX6_least.2.1 5 = .ok (.iload_n 0, 1) := by decide +kernel
theorem dX6_least_6 : decode mX6_least.2.1 6 = .ok (.goto 4, 3) := by decide +kernel
theorem dX6_least_9 : decode mX6_least.2.1 9 = .ok (.iload_n 1, 1) := by decide +kernel
theorem dX6_least_10 : decode mX6_least.2.1 10 = .ok (.ireturn, 1) := by decide +kernel
theorem dX6_greatest_0 : decode mX6_greatest.2.1 0 = .ok (.iload_n 0, 1) := by decide +kernel
theorem dX6_greatest_1 : decode mX6_greatest.2.1 1 = .ok (.iload_n 1, 1) := by decide +kernel
theorem dX6_greatest_2 : decode mX6_greatest.2.1 2 = .ok (.if_icmp .le 7, 3) := by decide +kernel
theorem dX6_greatest_5 : decode mX6_greatest.2.1 5 = .ok (.iload_n 0, 1) := by decide +kernel
theorem dX6_greatest_6 : decode mX6_greatest.2.1 6 = .ok (.goto 4, 3) := by decide +kernel
theorem dX6_greatest_9 : decode mX6_greatest.2.1 9 = .ok (.iload_n 1, 1) := by decide +kernel
theorem dX6_greatest_10 : decode mX6_greatest.2.1 10 = .ok (.ireturn, 1) := by decide +kernel
theorem dX6_orNone_0 : decode mX6_orNone.2.1 0 = .ok (.iload_n 1, 1) := by decide +kernel
theorem dX6_orNone_1 : decode mX6_orNone.2.1 1 = .ok (.ifCond .ge 12, 3) := by decide +kernel
theorem dX6_orNone_4 : decode mX6_orNone.2.1 4 = .ok (.aload_n 0, 1) := by decide +kernel
theorem dX6_orNone_5 : decode mX6_orNone.2.1 5 = .ok (.ldc 44, 2) := by decide +kernel
theorem dX6_orNone_7 : decode mX6_orNone.2.1 7 = .ok (.invokevirtual 45, 3) := by decide +kernel
theorem dX6_orNone_10 : decode mX6_orNone.2.1 10 = .ok (.goto 4, 3) := by decide +kernel
theorem dX6_orNone_13 : decode mX6_orNone.2.1 13 = .ok (.iload_n 1, 1) := by decide +kernel
theorem dX6_orNone_14 : decode mX6_orNone.2.1 14 = .ok (.ireturn, 1) := by decide +kernel
theorem dX6_many_0 : decode mX6_many.2.1 0 = .ok (.iconst 0, 1) := by decide +kernel
theorem dX6_many_1 : decode mX6_many.2.1 1 = .ok (.istore_n 1, 1) := by decide +kernel
theorem dX6_many_2 : decode mX6_many.2.1 2 = .ok (.iload_n 0, 1) := by decide +kernel
theorem dX6_many_3 : decode mX6_many.2.1 3 = .ok (.istore_n 2, 1) := by decide +kernel
theorem dX6_many_4 : decode mX6_many.2.1 4 = .ok (.iload_n 2, 1) := by decide +kernel
theorem dX6_many_5 : decode mX6_many.2.1 5 = .ok (.ifCond .eq 15, 3) := by decide +kernel
theorem dX6_many_8 : decode mX6_many.2.1 8 = .ok (.iinc 1 1, 3) := by decide +kernel
theorem dX6_many_11 : decode mX6_many.2.1 11 = .ok (.iload_n 2, 1) := by decide +kernel
theorem dX6_many_12 : decode mX6_many.2.1 12 = .ok (.iload_n 2, 1) := by decide +kernel
theorem dX6_many_13 : decode mX6_many.2.1 13 = .ok (.iconst 1, 1) := by decide +kernel
theorem dX6_many_14 : decode mX6_many.2.1 14 = .ok (.isub, 1) := by decide +kernel
theorem dX6_many_15 : decode mX6_many.2.1 15 = .ok (.iand, 1) := by decide +kernel
theorem dX6_many_16 : decode mX6_many.2.1 16 = .ok (.istore_n 2, 1) := by decide +kernel
theorem dX6_many_17 : decode mX6_many.2.1 17 = .ok (.goto (-13), 3) := by decide +kernel
theorem dX6_many_20 : decode mX6_many.2.1 20 = .ok (.iload_n 1, 1) := by decide +kernel
theorem dX6_many_21 : decode mX6_many.2.1 21 = .ok (.ireturn, 1) := by decide +kernel
theorem dX6_weather_0 : decode mX6_weather.2.1 0 = .ok (.iload_n 1, 1) := by decide +kernel
theorem dX6_weather_1 : decode mX6_weather.2.1 1 = .ok (.i2l, 1) := by decide +kernel
theorem dX6_weather_2 : decode mX6_weather.2.1 2 = .ok (.lconst 0, 1) := by decide +kernel
theorem dX6_weather_3 : decode mX6_weather.2.1 3 = .ok (.ldc2_w 49, 3) := by decide +kernel
theorem dX6_weather_6 : decode mX6_weather.2.1 6 = .ok (.invokestatic 51, 3) := by decide +kernel
theorem dX6_weather_9 : decode mX6_weather.2.1 9 = .ok (.ifCond .eq 26, 3) := by decide +kernel
theorem dX6_weather_12 : decode mX6_weather.2.1 12 = .ok (.iload_n 2, 1) := by decide +kernel
theorem dX6_weather_13 : decode mX6_weather.2.1 13 = .ok (.i2l, 1) := by decide +kernel
theorem dX6_weather_14 : decode mX6_weather.2.1 14 = .ok (.lconst 0, 1) := by decide +kernel
theorem dX6_weather_15 : decode mX6_weather.2.1 15 = .ok (.ldc2_w 55, 3) := by decide +kernel
theorem dX6_weather_18 : decode mX6_weather.2.1 18 = .ok (.invokestatic 51, 3) := by decide +kernel
theorem dX6_weather_21 : decode mX6_weather.2.1 21 = .ok (.ifCond .eq 14, 3) := by decide +kernel
theorem dX6_weather_24 : decode mX6_weather.2.1 24 = .ok (.aload_n 0, 1) := by decide +kernel
theorem dX6_weather_25 : decode mX6_weather.2.1 25 = .ok (.iconst 3, 1) := by decide +kernel
theorem dX6_weather_26 : decode mX6_weather.2.1 26 = .ok (.iload_n 1, 1) := by decide +kernel
theorem dX6_weather_27 : decode mX6_weather.2.1 27 = .ok (.iadd, 1) := by decide +kernel
theorem dX6_weather_28 : decode mX6_weather.2.1 28 = .ok (.iload_n 2, 1) := by decide +kernel
theorem dX6_weather_29 : decode mX6_weather.2.1 29 = .ok (.invokevirtual 57, 3) := by decide +kernel
theorem dX6_weather_32 : decode mX6_weather.2.1 32 = .ok (.goto 9, 3) := by decide +kernel
theorem dX6_weather_35 : decode mX6_weather.2.1 35 = .ok (.aload_n 0, 1) := by decide +kernel
theorem dX6_weather_36 : decode mX6_weather.2.1 36 = .ok (.ldc 43, 2) := by decide +kernel
theorem dX6_weather_38 : decode mX6_weather.2.1 38 = .ok (.invokevirtual 45, 3) := by decide +kernel
theorem dX6_weather_41 : decode mX6_weather.2.1 41 = .ok (.ireturn, 1) := by decide +kernel
theorem dX6_comes_0 : decode mX6_comes.2.1 0 = .ok (.bipush 6, 2) := by decide +kernel
theorem dX6_comes_2 : decode mX6_comes.2.1 2 = .ok (.iconst 5, 1) := by decide +kernel
theorem dX6_comes_3 : decode mX6_comes.2.1 3 = .ok (.aload_n 0, 1) := by decide +kernel
theorem dX6_comes_4 : decode mX6_comes.2.1 4 = .ok (.getfield 7, 3) := by decide +kernel
theorem dX6_comes_7 : decode mX6_comes.2.1 7 = .ok (.iconst 0, 1) := by decide +kernel
theorem dX6_comes_8 : decode mX6_comes.2.1 8 = .ok (.iaload, 1) := by decide +kernel
theorem dX6_comes_9 : decode mX6_comes.2.1 9 = .ok (.imul, 1) := by decide +kernel
theorem dX6_comes_10 : decode mX6_comes.2.1 10 = .ok (.iadd, 1) := by decide +kernel
theorem dX6_comes_11 : decode mX6_comes.2.1 11 = .ok (.istore_n 3, 1) := by decide +kernel
theorem dX6_comes_12 : decode mX6_comes.2.1 12 = .ok (.aload_n 0, 1) := by decide +kernel
theorem dX6_comes_13 : decode mX6_comes.2.1 13 = .ok (.getfield 7, 3) := by decide +kernel
theorem dX6_comes_16 : decode mX6_comes.2.1 16 = .ok (.iload_n 3, 1) := by decide +kernel
theorem dX6_comes_17 : decode mX6_comes.2.1 17 = .ok (.iload_n 1, 1) := by decide +kernel
theorem dX6_comes_18 : decode mX6_comes.2.1 18 = .ok (.iastore, 1) := by decide +kernel
theorem dX6_comes_19 : decode mX6_comes.2.1 19 = .ok (.aload_n 0, 1) := by decide +kernel
theorem dX6_comes_20 : decode mX6_comes.2.1 20 = .ok (.getfield 7, 3) := by decide +kernel
theorem dX6_comes_23 : decode mX6_comes.2.1 23 = .ok (.iload_n 3, 1) := by decide +kernel
theorem dX6_comes_24 : decode mX6_comes.2.1 24 = .ok (.iconst 1, 1) := by decide +kernel
theorem dX6_comes_25 : decode mX6_comes.2.1 25 = .ok (.iadd, 1) := by decide +kernel
theorem dX6_comes_26 : decode mX6_comes.2.1 26 = .ok (.iload_n 2, 1) := by decide +kernel
theorem dX6_comes_27 : decode mX6_comes.2.1 27 = .ok (.iastore, 1) := by decide +kernel
theorem dX6_comes_28 : decode mX6_comes.2.1 28 = .ok (.aload_n 0, 1) := by decide +kernel
theorem dX6_comes_29 : decode mX6_comes.2.1 29 = .ok (.getfield 7, 3) := by decide +kernel
theorem dX6_comes_32 : decode mX6_comes.2.1 32 = .ok (.iload_n 3, 1) := by decide +kernel
theorem dX6_comes_33 : decode mX6_comes.2.1 33 = .ok (.iconst 2, 1) := by decide +kernel
theorem dX6_comes_34 : decode mX6_comes.2.1 34 = .ok (.iadd, 1) := by decide +kernel
theorem dX6_comes_35 : decode mX6_comes.2.1 35 = .ok (.iconst 4, 1) := by decide +kernel
theorem dX6_comes_36 : decode mX6_comes.2.1 36 = .ok (.iastore, 1) := by decide +kernel
theorem dX6_comes_37 : decode mX6_comes.2.1 37 = .ok (.aload_n 0, 1) := by decide +kernel
theorem dX6_comes_38 : decode mX6_comes.2.1 38 = .ok (.getfield 7, 3) := by decide +kernel
theorem dX6_comes_41 : decode mX6_comes.2.1 41 = .ok (.iload_n 3, 1) := by decide +kernel
theorem dX6_comes_42 : decode mX6_comes.2.1 42 = .ok (.iconst 3, 1) := by decide +kernel
theorem dX6_comes_43 : decode mX6_comes.2.1 43 = .ok (.iadd, 1) := by decide +kernel
theorem dX6_comes_44 : decode mX6_comes.2.1 44 = .ok (.iconst 0, 1) := by decide +kernel
theorem dX6_comes_45 : decode mX6_comes.2.1 45 = .ok (.iastore, 1) := by decide +kernel
theorem dX6_comes_46 : decode mX6_comes.2.1 46 = .ok (.aload_n 0, 1) := by decide +kernel
theorem dX6_comes_47 : decode mX6_comes.2.1 47 = .ok (.getfield 7, 3) := by decide +kernel
theorem dX6_comes_50 : decode mX6_comes.2.1 50 = .ok (.iload_n 3, 1) := by decide +kernel
theorem dX6_comes_51 : decode mX6_comes.2.1 51 = .ok (.iconst 4, 1) := by decide +kernel
theorem dX6_comes_52 : decode mX6_comes.2.1 52 = .ok (.iadd, 1) := by decide +kernel
theorem dX6_comes_53 : decode mX6_comes.2.1 53 = .ok (.iconst 0, 1) := by decide +kernel
theorem dX6_comes_54 : decode mX6_comes.2.1 54 = .ok (.iastore, 1) := by decide +kernel
theorem dX6_comes_55 : decode mX6_comes.2.1 55 = .ok (.aload_n 0, 1) := by decide +kernel
theorem dX6_comes_56 : decode mX6_comes.2.1 56 = .ok (.getfield 7, 3) := by decide +kernel
theorem dX6_comes_59 : decode mX6_comes.2.1 59 = .ok (.iconst 0, 1) := by decide +kernel
theorem dX6_comes_60 : decode mX6_comes.2.1 60 = .ok (.dup2, 1) := by decide +kernel
theorem dX6_comes_61 : decode mX6_comes.2.1 61 = .ok (.iaload, 1) := by decide +kernel
theorem dX6_comes_62 : decode mX6_comes.2.1 62 = .ok (.iconst 1, 1) := by decide +kernel
theorem dX6_comes_63 : decode mX6_comes.2.1 63 = .ok (.iadd, 1) := by decide +kernel
theorem dX6_comes_64 : decode mX6_comes.2.1 64 = .ok (.iastore, 1) := by decide +kernel
theorem dX6_comes_65 : decode mX6_comes.2.1 65 = .ok (.return_, 1) := by decide +kernel
theorem dX6_farm_0 : decode mX6_farm.2.1 0 = .ok (.iload_n 1, 1) := by decide +kernel
theorem dX6_farm_1 : decode mX6_farm.2.1 1 = .ok (.i2l, 1) := by decide +kernel
theorem dX6_farm_2 : decode mX6_farm.2.1 2 = .ok (.lconst 0, 1) := by decide +kernel
theorem dX6_farm_3 : decode mX6_farm.2.1 3 = .ok (.ldc2_w 61, 3) := by decide +kernel
theorem dX6_farm_6 : decode mX6_farm.2.1 6 = .ok (.invokestatic 51, 3) := by decide +kernel
theorem dX6_farm_9 : decode mX6_farm.2.1 9 = .ok (.ifCond .eq 15, 3) := by decide +kernel
theorem dX6_farm_12 : decode mX6_farm.2.1 12 = .ok (.iload_n 2, 1) := by decide +kernel
theorem dX6_farm_13 : decode mX6_farm.2.1 13 = .ok (.i2l, 1) := by decide +kernel
theorem dX6_farm_14 : decode mX6_farm.2.1 14 = .ok (.lconst 0, 1) := by decide +kernel
theorem dX6_farm_15 : decode mX6_farm.2.1 15 = .ok (.ldc2_w 63, 3) := by decide +kernel
theorem dX6_farm_18 : decode mX6_farm.2.1 18 = .ok (.invokestatic 51, 3) := by decide +kernel
theorem dX6_farm_21 : decode mX6_farm.2.1 21 = .ok (.ifCond .ne 10, 3) := by decide +kernel
theorem dX6_farm_24 : decode mX6_farm.2.1 24 = .ok (.aload_n 0, 1) := by decide +kernel
theorem dX6_farm_25 : decode mX6_farm.2.1 25 = .ok (.ldc 43, 2) := by decide +kernel
theorem dX6_farm_27 : decode mX6_farm.2.1 27 = .ok (.invokevirtual 45, 3) := by decide +kernel
theorem dX6_farm_30 : decode mX6_farm.2.1 30 = .ok (.ireturn, 1) := by decide +kernel
theorem dX6_farm_31 : decode mX6_farm.2.1 31 = .ok (.aload_n 0, 1) := by decide +kernel
theorem dX6_farm_32 : decode mX6_farm.2.1 32 = .ok (.getfield 7, 3) := by decide +kernel
theorem dX6_farm_35 : decode mX6_farm.2.1 35 = .ok (.iconst 0, 1) := by decide +kernel
theorem dX6_farm_36 : decode mX6_farm.2.1 36 = .ok (.iaload, 1) := by decide +kernel
theorem dX6_farm_37 : decode mX6_farm.2.1 37 = .ok (.bipush 8, 2) := by decide +kernel
theorem dX6_farm_39 : decode mX6_farm.2.1 39 = .ok (.if_icmp .ne 10, 3) := by decide +kernel
theorem dX6_farm_42 : decode mX6_farm.2.1 42 = .ok (.aload_n 0, 1) := by decide +kernel
theorem dX6_farm_43 : decode mX6_farm.2.1 43 = .ok (.ldc 65, 2) := by decide +kernel
theorem dX6_farm_45 : decode mX6_farm.2.1 45 = .ok (.invokevirtual 45, 3) := by decide +kernel
theorem dX6_farm_48 : decode mX6_farm.2.1 48 = .ok (.ireturn, 1) := by decide +kernel
theorem dX6_farm_49 : decode mX6_farm.2.1 49 = .ok (.aload_n 0, 1) := by decide +kernel
theorem dX6_farm_50 : decode mX6_farm.2.1 50 = .ok (.iload_n 1, 1) := by decide +kernel
theorem dX6_farm_51 : decode mX6_farm.2.1 51 = .ok (.iload_n 2, 1) := by decide +kernel
theorem dX6_farm_52 : decode mX6_farm.2.1 52 = .ok (.invokevirtual 66, 3) := by decide +kernel
theorem dX6_farm_55 : decode mX6_farm.2.1 55 = .ok (.aload_n 0, 1) := by decide +kernel
theorem dX6_farm_56 : decode mX6_farm.2.1 56 = .ok (.getfield 7, 3) := by decide +kernel
theorem dX6_farm_59 : decode mX6_farm.2.1 59 = .ok (.iconst 0, 1) := by decide +kernel
theorem dX6_farm_60 : decode mX6_farm.2.1 60 = .ok (.iaload, 1) := by decide +kernel
theorem dX6_farm_61 : decode mX6_farm.2.1 61 = .ok (.iconst 1, 1) := by decide +kernel
theorem dX6_farm_62 : decode mX6_farm.2.1 62 = .ok (.isub, 1) := by decide +kernel
theorem dX6_farm_63 : decode mX6_farm.2.1 63 = .ok (.ireturn, 1) := by decide +kernel
theorem dX6_reaps_0 : decode mX6_reaps.2.1 0 = .ok (.iconst 1, 1) := by decide +kernel
theorem dX6_reaps_1 : decode mX6_reaps.2.1 1 = .ok (.iconst 2, 1) := by decide +kernel
theorem dX6_reaps_2 : decode mX6_reaps.2.1 2 = .ok (.aload_n 0, 1) := by decide +kernel
theorem dX6_reaps_3 : decode mX6_reaps.2.1 3 = .ok (.iload_n 1, 1) := by decide +kernel
theorem dX6_reaps_4 : decode mX6_reaps.2.1 4 = .ok (.iconst 2, 1) := by decide +kernel
theorem dX6_reaps_5 : decode mX6_reaps.2.1 5 = .ok (.invokevirtual 70, 3) := by decide +kernel
theorem dX6_reaps_8 : decode mX6_reaps.2.1 8 = .ok (.imul, 1) := by decide +kernel
theorem dX6_reaps_9 : decode mX6_reaps.2.1 9 = .ok (.aload_n 0, 1) := by decide +kernel
theorem dX6_reaps_10 : decode mX6_reaps.2.1 10 = .ok (.getfield 7, 3) := by decide +kernel
theorem dX6_reaps_13 : decode mX6_reaps.2.1 13 = .ok (.iconst 3, 1) := by decide +kernel
theorem dX6_reaps_14 : decode mX6_reaps.2.1 14 = .ok (.iaload, 1) := by decide +kernel
theorem dX6_reaps_15 : decode mX6_reaps.2.1 15 = .ok (.bipush 10, 2) := by decide +kernel
theorem dX6_reaps_17 : decode mX6_reaps.2.1 17 = .ok (.idiv, 1) := by decide +kernel
theorem dX6_reaps_18 : decode mX6_reaps.2.1 18 = .ok (.isub, 1) := by decide +kernel
theorem dX6_reaps_19 : decode mX6_reaps.2.1 19 = .ok (.invokestatic 73, 3) := by decide +kernel
theorem dX6_reaps_22 : decode mX6_reaps.2.1 22 = .ok (.istore_n 3, 1) := by decide +kernel
theorem dX6_reaps_23 : decode mX6_reaps.2.1 23 = .ok (.iconst 1, 1) := by decide +kernel
theorem dX6_reaps_24 : decode mX6_reaps.2.1 24 = .ok (.iload_n 3, 1) := by decide +kernel
theorem dX6_reaps_25 : decode mX6_reaps.2.1 25 = .ok (.iconst 2, 1) := by decide +kernel
theorem dX6_reaps_26 : decode mX6_reaps.2.1 26 = .ok (.idiv, 1) := by decide +kernel
theorem dX6_reaps_27 : decode mX6_reaps.2.1 27 = .ok (.invokestatic 73, 3) := by decide +kernel
theorem dX6_reaps_30 : decode mX6_reaps.2.1 30 = .ok (.istore 4, 2) := by decide +kernel
theorem dX6_reaps_32 : decode mX6_reaps.2.1 32 = .ok (.iload_n 2, 1) := by decide +kernel
theorem dX6_reaps_33 : decode mX6_reaps.2.1 33 = .ok (.bipush 20, 2) := by decide +kernel
theorem dX6_reaps_35 : decode mX6_reaps.2.1 35 = .ok (.if_icmp .le 9, 3) := by decide +kernel
theorem dX6_reaps_38 : decode mX6_reaps.2.1 38 = .ok (.iload_n 3, 1) := by decide +kernel
theorem dX6_reaps_39 : decode mX6_reaps.2.1 39 = .ok (.iconst 3, 1) := by decide +kernel
theorem dX6_reaps_40 : decode mX6_reaps.2.1 40 = .ok (.iadd, 1) := by decide +kernel
theorem dX6_reaps_41 : decode mX6_reaps.2.1 41 = .ok (.goto 12, 3) := by decide +kernel
theorem dX6_reaps_44 : decode mX6_reaps.2.1 44 = .ok (.iconst 1, 1) := by decide +kernel
theorem dX6_reaps_45 : decode mX6_reaps.2.1 45 = .ok (.iload_n 3, 1) := by decide +kernel
theorem dX6_reaps_46 : decode mX6_reaps.2.1 46 = .ok (.iconst 3, 1) := by decide +kernel
theorem dX6_reaps_47 : decode mX6_reaps.2.1 47 = .ok (.iadd, 1) := by decide +kernel
theorem dX6_reaps_48 : decode mX6_reaps.2.1 48 = .ok (.iconst 2, 1) := by decide +kernel
theorem dX6_reaps_49 : decode mX6_reaps.2.1 49 = .ok (.idiv, 1) := by decide +kernel
theorem dX6_reaps_50 : decode mX6_reaps.2.1 50 = .ok (.invokestatic 73, 3) := by decide +kernel
theorem dX6_reaps_53 : decode mX6_reaps.2.1 53 = .ok (.istore 5, 2) := by decide +kernel
theorem dX6_reaps_55 : decode mX6_reaps.2.1 55 = .ok (.aload_n 0, 1) := by decide +kernel
theorem dX6_reaps_56 : decode mX6_reaps.2.1 56 = .ok (.iload_n 1, 1) := by decide +kernel
theorem dX6_reaps_57 : decode mX6_reaps.2.1 57 = .ok (.iconst 0, 1) := by decide +kernel
theorem dX6_reaps_58 : decode mX6_reaps.2.1 58 = .ok (.invokevirtual 70, 3) := by decide +kernel
theorem dX6_reaps_61 : decode mX6_reaps.2.1 61 = .ok (.tableswitch 88 1 6 #[39, 42, 46, 49, 61, 79], 39) := by decide +kernel
theorem dX6_reaps_100 : decode mX6_reaps.2.1 100 = .ok (.iload 4, 2) := by decide +kernel
theorem dX6_reaps_102 : decode mX6_reaps.2.1 102 = .ok (.ireturn, 1) := by decide +kernel
theorem dX6_reaps_103 : decode mX6_reaps.2.1 103 = .ok (.iload_n 3, 1) := by decide +kernel
theorem dX6_reaps_104 : decode mX6_reaps.2.1 104 = .ok (.iconst 3, 1) := by decide +kernel
theorem dX6_reaps_105 : decode mX6_reaps.2.1 105 = .ok (.iadd, 1) := by decide +kernel
theorem dX6_reaps_106 : decode mX6_reaps.2.1 106 = .ok (.ireturn, 1) := by decide +kernel
theorem dX6_reaps_107 : decode mX6_reaps.2.1 107 = .ok (.iload 5, 2) := by decide +kernel
theorem dX6_reaps_109 : decode mX6_reaps.2.1 109 = .ok (.ireturn, 1) := by decide +kernel
theorem dX6_reaps_110 : decode mX6_reaps.2.1 110 = .ok (.iload_n 2, 1) := by decide +kernel
theorem dX6_reaps_111 : decode mX6_reaps.2.1 111 = .ok (.iconst 5, 1) := by decide +kernel
theorem dX6_reaps_112 : decode mX6_reaps.2.1 112 = .ok (.if_icmp .le 8, 3) := by decide +kernel
theorem dX6_reaps_115 : decode mX6_reaps.2.1 115 = .ok (.iload 5, 2) := by decide +kernel
theorem dX6_reaps_117 : decode mX6_reaps.2.1 117 = .ok (.goto 4, 3) := by decide +kernel
theorem dX6_reaps_120 : decode mX6_reaps.2.1 120 = .ok (.iconst 1, 1) := by decide +kernel
theorem dX6_reaps_121 : decode mX6_reaps.2.1 121 = .ok (.ireturn, 1) := by decide +kernel
theorem dX6_reaps_122 : decode mX6_reaps.2.1 122 = .ok (.aload_n 0, 1) := by decide +kernel
theorem dX6_reaps_123 : decode mX6_reaps.2.1 123 = .ok (.getfield 7, 3) := by decide +kernel
theorem dX6_reaps_126 : decode mX6_reaps.2.1 126 = .ok (.iconst 3, 1) := by decide +kernel
theorem dX6_reaps_127 : decode mX6_reaps.2.1 127 = .ok (.iaload, 1) := by decide +kernel
theorem dX6_reaps_128 : decode mX6_reaps.2.1 128 = .ok (.bipush 50, 2) := by decide +kernel
theorem dX6_reaps_130 : decode mX6_reaps.2.1 130 = .ok (.if_icmp .ge 8, 3) := by decide +kernel
theorem dX6_reaps_133 : decode mX6_reaps.2.1 133 = .ok (.bipush 30, 2) := by decide +kernel
theorem dX6_reaps_135 : decode mX6_reaps.2.1 135 = .ok (.goto 4, 3) := by decide +kernel
theorem dX6_reaps_138 : decode mX6_reaps.2.1 138 = .ok (.iconst 2, 1) := by decide +kernel
theorem dX6_reaps_139 : decode mX6_reaps.2.1 139 = .ok (.ireturn, 1) := by decide +kernel
theorem dX6_reaps_140 : decode mX6_reaps.2.1 140 = .ok (.iconst 1, 1) := by decide +kernel
theorem dX6_reaps_141 : decode mX6_reaps.2.1 141 = .ok (.iload 4, 2) := by decide +kernel
theorem dX6_reaps_143 : decode mX6_reaps.2.1 143 = .ok (.iconst 1, 1) := by decide +kernel
theorem dX6_reaps_144 : decode mX6_reaps.2.1 144 = .ok (.isub, 1) := by decide +kernel
theorem dX6_reaps_145 : decode mX6_reaps.2.1 145 = .ok (.invokestatic 73, 3) := by decide +kernel
theorem dX6_reaps_148 : decode mX6_reaps.2.1 148 = .ok (.ireturn, 1) := by decide +kernel
theorem dX6_reaps_149 : decode mX6_reaps.2.1 149 = .ok (.iload_n 3, 1) := by decide +kernel
theorem dX6_reaps_150 : decode mX6_reaps.2.1 150 = .ok (.ireturn, 1) := by decide +kernel
theorem dX6_leftBehind_0 : decode mX6_leftBehind.2.1 0 = .ok (.aload_n 0, 1) := by decide +kernel
theorem dX6_leftBehind_1 : decode mX6_leftBehind.2.1 1 = .ok (.iload_n 1, 1) := by decide +kernel
theorem dX6_leftBehind_2 : decode mX6_leftBehind.2.1 2 = .ok (.iconst 1, 1) := by decide +kernel
theorem dX6_leftBehind_3 : decode mX6_leftBehind.2.1 3 = .ok (.invokevirtual 70, 3) := by decide +kernel
theorem dX6_leftBehind_6 : decode mX6_leftBehind.2.1 6 = .ok (.istore_n 3, 1) := by decide +kernel
theorem dX6_leftBehind_7 : decode mX6_leftBehind.2.1 7 = .ok (.iconst 0, 1) := by decide +kernel
theorem dX6_leftBehind_8 : decode mX6_leftBehind.2.1 8 = .ok (.istore 4, 2) := by decide +kernel
theorem dX6_leftBehind_10 : decode mX6_leftBehind.2.1 10 = .ok (.iload 4, 2) := by decide +kernel
theorem dX6_leftBehind_12 : decode mX6_leftBehind.2.1 12 = .ok (.iload_n 2, 1) := by decide +kernel
theorem dX6_leftBehind_13 : decode mX6_leftBehind.2.1 13 = .ok (.if_icmp .ge 26, 3) := by decide +kernel
theorem dX6_leftBehind_16 : decode mX6_leftBehind.2.1 16 = .ok (.iload_n 3, 1) := by decide +kernel
theorem dX6_leftBehind_17 : decode mX6_leftBehind.2.1 17 = .ok (.ifCond .le 22, 3) := by decide +kernel
theorem dX6_leftBehind_20 : decode mX6_leftBehind.2.1 20 = .ok (.iconst 0, 1) := by decide +kernel
theorem dX6_leftBehind_21 : decode mX6_leftBehind.2.1 21 = .ok (.iload_n 3, 1) := by decide +kernel
theorem dX6_leftBehind_22 : decode mX6_leftBehind.2.1 22 = .ok (.aload_n 0, 1) := by decide +kernel
theorem dX6_leftBehind_23 : decode mX6_leftBehind.2.1 23 = .ok (.iload_n 1, 1) := by decide +kernel
theorem dX6_leftBehind_24 : decode mX6_leftBehind.2.1 24 = .ok (.iload_n 3, 1) := by decide +kernel
theorem dX6_leftBehind_25 : decode mX6_leftBehind.2.1 25 = .ok (.invokevirtual 76, 3) := by decide +kernel
theorem dX6_leftBehind_28 : decode mX6_leftBehind.2.1 28 = .ok (.isub, 1) := by decide +kernel
theorem dX6_leftBehind_29 : decode mX6_leftBehind.2.1 29 = .ok (.invokestatic 73, 3) := by decide +kernel
theorem dX6_leftBehind_32 : decode mX6_leftBehind.2.1 32 = .ok (.istore_n 3, 1) := by decide +kernel
theorem dX6_leftBehind_33 : decode mX6_leftBehind.2.1 33 = .ok (.iinc 4 1, 3) := by decide +kernel
theorem dX6_leftBehind_36 : decode mX6_leftBehind.2.1 36 = .ok (.goto (-26), 3) := by decide +kernel
theorem dX6_leftBehind_39 : decode mX6_leftBehind.2.1 39 = .ok (.iload_n 3, 1) := by decide +kernel
theorem dX6_leftBehind_40 : decode mX6_leftBehind.2.1 40 = .ok (.ireturn, 1) := by decide +kernel
theorem dX6_days_0 : decode mX6_days.2.1 0 = .ok (.aload_n 0, 1) := by decide +kernel
theorem dX6_days_1 : decode mX6_days.2.1 1 = .ok (.iload_n 1, 1) := by decide +kernel
theorem dX6_days_2 : decode mX6_days.2.1 2 = .ok (.iconst 1, 1) := by decide +kernel
theorem dX6_days_3 : decode mX6_days.2.1 3 = .ok (.invokevirtual 70, 3) := by decide +kernel
theorem dX6_days_6 : decode mX6_days.2.1 6 = .ok (.istore_n 2, 1) := by decide +kernel
theorem dX6_days_7 : decode mX6_days.2.1 7 = .ok (.iconst 0, 1) := by decide +kernel
theorem dX6_days_8 : decode mX6_days.2.1 8 = .ok (.istore_n 3, 1) := by decide +kernel
theorem dX6_days_9 : decode mX6_days.2.1 9 = .ok (.iload_n 2, 1) := by decide +kernel
theorem dX6_days_10 : decode mX6_days.2.1 10 = .ok (.bipush 20, 2) := by decide +kernel
theorem dX6_days_12 : decode mX6_days.2.1 12 = .ok (.if_icmp .le 28, 3) := by decide +kernel
theorem dX6_days_15 : decode mX6_days.2.1 15 = .ok (.aload_n 0, 1) := by decide +kernel
theorem dX6_days_16 : decode mX6_days.2.1 16 = .ok (.iload_n 1, 1) := by decide +kernel
theorem dX6_days_17 : decode mX6_days.2.1 17 = .ok (.iload_n 2, 1) := by decide +kernel
theorem dX6_days_18 : decode mX6_days.2.1 18 = .ok (.invokevirtual 76, 3) := by decide +kernel
theorem dX6_days_21 : decode mX6_days.2.1 21 = .ok (.istore 4, 2) := by decide +kernel
theorem dX6_days_23 : decode mX6_days.2.1 23 = .ok (.iload_n 2, 1) := by decide +kernel
theorem dX6_days_24 : decode mX6_days.2.1 24 = .ok (.bipush 21, 2) := by decide +kernel
theorem dX6_days_26 : decode mX6_days.2.1 26 = .ok (.isub, 1) := by decide +kernel
theorem dX6_days_27 : decode mX6_days.2.1 27 = .ok (.iload 4, 2) := by decide +kernel
theorem dX6_days_29 : decode mX6_days.2.1 29 = .ok (.idiv, 1) := by decide +kernel
theorem dX6_days_30 : decode mX6_days.2.1 30 = .ok (.iconst 1, 1) := by decide +kernel
theorem dX6_days_31 : decode mX6_days.2.1 31 = .ok (.iadd, 1) := by decide +kernel
theorem dX6_days_32 : decode mX6_days.2.1 32 = .ok (.istore_n 3, 1) := by decide +kernel
theorem dX6_days_33 : decode mX6_days.2.1 33 = .ok (.iload_n 2, 1) := by decide +kernel
theorem dX6_days_34 : decode mX6_days.2.1 34 = .ok (.iload_n 3, 1) := by decide +kernel
theorem dX6_days_35 : decode mX6_days.2.1 35 = .ok (.iload 4, 2) := by decide +kernel
theorem dX6_days_37 : decode mX6_days.2.1 37 = .ok (.imul, 1) := by decide +kernel
theorem dX6_days_38 : decode mX6_days.2.1 38 = .ok (.isub, 1) := by decide +kernel
theorem dX6_days_39 : decode mX6_days.2.1 39 = .ok (.istore_n 2, 1) := by decide +kernel
theorem dX6_days_40 : decode mX6_days.2.1 40 = .ok (.iload_n 2, 1) := by decide +kernel
theorem dX6_days_41 : decode mX6_days.2.1 41 = .ok (.ifCond .le 18, 3) := by decide +kernel
theorem dX6_days_44 : decode mX6_days.2.1 44 = .ok (.iload_n 2, 1) := by decide +kernel
theorem dX6_days_45 : decode mX6_days.2.1 45 = .ok (.aload_n 0, 1) := by decide +kernel
theorem dX6_days_46 : decode mX6_days.2.1 46 = .ok (.iload_n 1, 1) := by decide +kernel
theorem dX6_days_47 : decode mX6_days.2.1 47 = .ok (.iload_n 2, 1) := by decide +kernel
theorem dX6_days_48 : decode mX6_days.2.1 48 = .ok (.invokevirtual 76, 3) := by decide +kernel
theorem dX6_days_51 : decode mX6_days.2.1 51 = .ok (.isub, 1) := by decide +kernel
theorem dX6_days_52 : decode mX6_days.2.1 52 = .ok (.istore_n 2, 1) := by decide +kernel
theorem dX6_days_53 : decode mX6_days.2.1 53 = .ok (.iinc 3 1, 3) := by decide +kernel
theorem dX6_days_56 : decode mX6_days.2.1 56 = .ok (.goto (-16), 3) := by decide +kernel
theorem dX6_days_59 : decode mX6_days.2.1 59 = .ok (.iload_n 3, 1) := by decide +kernel
theorem dX6_days_60 : decode mX6_days.2.1 60 = .ok (.ireturn, 1) := by decide +kernel
theorem dX6_tells_0 : decode mX6_tells.2.1 0 = .ok (.aload_n 0, 1) := by decide +kernel
theorem dX6_tells_1 : decode mX6_tells.2.1 1 = .ok (.iload_n 1, 1) := by decide +kernel
theorem dX6_tells_2 : decode mX6_tells.2.1 2 = .ok (.iconst 0, 1) := by decide +kernel
theorem dX6_tells_3 : decode mX6_tells.2.1 3 = .ok (.invokevirtual 70, 3) := by decide +kernel
theorem dX6_tells_6 : decode mX6_tells.2.1 6 = .ok (.tableswitch 63 1 6 #[38, 40, 42, 45, 59, 61], 38) := by decide +kernel
theorem dX6_tells_44 : decode mX6_tells.2.1 44 = .ok (.iconst 2, 1) := by decide +kernel
theorem dX6_tells_45 : decode mX6_tells.2.1 45 = .ok (.ireturn, 1) := by decide +kernel
theorem dX6_tells_46 : decode mX6_tells.2.1 46 = .ok (.iconst 3, 1) := by decide +kernel
theorem dX6_tells_47 : decode mX6_tells.2.1 47 = .ok (.ireturn, 1) := by decide +kernel
theorem dX6_tells_48 : decode mX6_tells.2.1 48 = .ok (.bipush (-3), 2) := by decide +kernel
theorem dX6_tells_50 : decode mX6_tells.2.1 50 = .ok (.ireturn, 1) := by decide +kernel
theorem dX6_tells_51 : decode mX6_tells.2.1 51 = .ok (.bipush 9, 2) := by decide +kernel
theorem dX6_tells_53 : decode mX6_tells.2.1 53 = .ok (.aload_n 0, 1) := by decide +kernel
theorem dX6_tells_54 : decode mX6_tells.2.1 54 = .ok (.iload_n 1, 1) := by decide +kernel
theorem dX6_tells_55 : decode mX6_tells.2.1 55 = .ok (.iconst 4, 1) := by decide +kernel
theorem dX6_tells_56 : decode mX6_tells.2.1 56 = .ok (.invokevirtual 70, 3) := by decide +kernel
theorem dX6_tells_59 : decode mX6_tells.2.1 59 = .ok (.invokestatic 79, 3) := by decide +kernel
theorem dX6_tells_62 : decode mX6_tells.2.1 62 = .ok (.iconst 3, 1) := by decide +kernel
theorem dX6_tells_63 : decode mX6_tells.2.1 63 = .ok (.isub, 1) := by decide +kernel
theorem dX6_tells_64 : decode mX6_tells.2.1 64 = .ok (.ireturn, 1) := by decide +kernel
theorem dX6_tells_65 : decode mX6_tells.2.1 65 = .ok (.iconst 0, 1) := by decide +kernel
theorem dX6_tells_66 : decode mX6_tells.2.1 66 = .ok (.ireturn, 1) := by decide +kernel
theorem dX6_tells_67 : decode mX6_tells.2.1 67 = .ok (.iconst 4, 1) := by decide +kernel
theorem dX6_tells_68 : decode mX6_tells.2.1 68 = .ok (.ireturn, 1) := by decide +kernel
theorem dX6_tells_69 : decode mX6_tells.2.1 69 = .ok (.iconst 1, 1) := by decide +kernel
theorem dX6_tells_70 : decode mX6_tells.2.1 70 = .ok (.ireturn, 1) := by decide +kernel
theorem dX6_of_0 : decode mX6_of.2.1 0 = .ok (.aload_n 0, 1) := by decide +kernel
theorem dX6_of_1 : decode mX6_of.2.1 1 = .ok (.iload_n 1, 1) := by decide +kernel
theorem dX6_of_2 : decode mX6_of.2.1 2 = .ok (.invokevirtual 82, 3) := by decide +kernel
theorem dX6_of_5 : decode mX6_of.2.1 5 = .ok (.ifCond .eq 15, 3) := by decide +kernel
theorem dX6_of_8 : decode mX6_of.2.1 8 = .ok (.iload_n 2, 1) := by decide +kernel
theorem dX6_of_9 : decode mX6_of.2.1 9 = .ok (.i2l, 1) := by decide +kernel
theorem dX6_of_10 : decode mX6_of.2.1 10 = .ok (.lconst 0, 1) := by decide +kernel
theorem dX6_of_11 : decode mX6_of.2.1 11 = .ok (.ldc2_w 86, 3) := by decide +kernel
theorem dX6_of_14 : decode mX6_of.2.1 14 = .ok (.invokestatic 51, 3) := by decide +kernel
theorem dX6_of_17 : decode mX6_of.2.1 17 = .ok (.ifCond .ne 10, 3) := by decide +kernel
theorem dX6_of_20 : decode mX6_of.2.1 20 = .ok (.aload_n 0, 1) := by decide +kernel
theorem dX6_of_21 : decode mX6_of.2.1 21 = .ok (.ldc 43, 2) := by decide +kernel
theorem dX6_of_23 : decode mX6_of.2.1 23 = .ok (.invokevirtual 45, 3) := by decide +kernel
theorem dX6_of_26 : decode mX6_of.2.1 26 = .ok (.ireturn, 1) := by decide +kernel
theorem dX6_of_27 : decode mX6_of.2.1 27 = .ok (.iload_n 2, 1) := by decide +kernel
theorem dX6_of_28 : decode mX6_of.2.1 28 = .ok (.tableswitch 52 5 7 #[28, 40, 46], 28) := by decide +kernel
theorem dX6_of_56 : decode mX6_of.2.1 56 = .ok (.aload_n 0, 1) := by decide +kernel
theorem dX6_of_57 : decode mX6_of.2.1 57 = .ok (.iload_n 1, 1) := by decide +kernel
theorem dX6_of_58 : decode mX6_of.2.1 58 = .ok (.aload_n 0, 1) := by decide +kernel
theorem dX6_of_59 : decode mX6_of.2.1 59 = .ok (.iload_n 1, 1) := by decide +kernel
theorem dX6_of_60 : decode mX6_of.2.1 60 = .ok (.iconst 1, 1) := by decide +kernel
theorem dX6_of_61 : decode mX6_of.2.1 61 = .ok (.invokevirtual 70, 3) := by decide +kernel
theorem dX6_of_64 : decode mX6_of.2.1 64 = .ok (.invokevirtual 76, 3) := by decide +kernel
theorem dX6_of_67 : decode mX6_of.2.1 67 = .ok (.ireturn, 1) := by decide +kernel
theorem dX6_of_68 : decode mX6_of.2.1 68 = .ok (.aload_n 0, 1) := by decide +kernel
theorem dX6_of_69 : decode mX6_of.2.1 69 = .ok (.iload_n 1, 1) := by decide +kernel
theorem dX6_of_70 : decode mX6_of.2.1 70 = .ok (.invokevirtual 88, 3) := by decide +kernel
theorem dX6_of_73 : decode mX6_of.2.1 73 = .ok (.ireturn, 1) := by decide +kernel
theorem dX6_of_74 : decode mX6_of.2.1 74 = .ok (.aload_n 0, 1) := by decide +kernel
theorem dX6_of_75 : decode mX6_of.2.1 75 = .ok (.iload_n 1, 1) := by decide +kernel
theorem dX6_of_76 : decode mX6_of.2.1 76 = .ok (.invokevirtual 91, 3) := by decide +kernel
theorem dX6_of_79 : decode mX6_of.2.1 79 = .ok (.ireturn, 1) := by decide +kernel
theorem dX6_of_80 : decode mX6_of.2.1 80 = .ok (.aload_n 0, 1) := by decide +kernel
theorem dX6_of_81 : decode mX6_of.2.1 81 = .ok (.iload_n 1, 1) := by decide +kernel
theorem dX6_of_82 : decode mX6_of.2.1 82 = .ok (.iload_n 2, 1) := by decide +kernel
theorem dX6_of_83 : decode mX6_of.2.1 83 = .ok (.invokevirtual 70, 3) := by decide +kernel
theorem dX6_of_86 : decode mX6_of.2.1 86 = .ok (.ireturn, 1) := by decide +kernel
theorem dX6_isFit_0 : decode mX6_isFit.2.1 0 = .ok (.iload_n 0, 1) := by decide +kernel
theorem dX6_isFit_1 : decode mX6_isFit.2.1 1 = .ok (.tableswitch 73 0 3 #[31, 41, 51, 61], 31) := by decide +kernel
theorem dX6_isFit_32 : decode mX6_isFit.2.1 32 = .ok (.iload_n 1, 1) := by decide +kernel
theorem dX6_isFit_33 : decode mX6_isFit.2.1 33 = .ok (.i2l, 1) := by decide +kernel
theorem dX6_isFit_34 : decode mX6_isFit.2.1 34 = .ok (.lconst 0, 1) := by decide +kernel
theorem dX6_isFit_35 : decode mX6_isFit.2.1 35 = .ok (.ldc2_w 61, 3) := by decide +kernel
theorem dX6_isFit_38 : decode mX6_isFit.2.1 38 = .ok (.invokestatic 51, 3) := by decide +kernel
theorem dX6_isFit_41 : decode mX6_isFit.2.1 41 = .ok (.ireturn, 1) := by decide +kernel
theorem dX6_isFit_42 : decode mX6_isFit.2.1 42 = .ok (.iload_n 1, 1) := by decide +kernel
theorem dX6_isFit_43 : decode mX6_isFit.2.1 43 = .ok (.i2l, 1) := by decide +kernel
theorem dX6_isFit_44 : decode mX6_isFit.2.1 44 = .ok (.lconst 0, 1) := by decide +kernel
theorem dX6_isFit_45 : decode mX6_isFit.2.1 45 = .ok (.ldc2_w 63, 3) := by decide +kernel
theorem dX6_isFit_48 : decode mX6_isFit.2.1 48 = .ok (.invokestatic 51, 3) := by decide +kernel
theorem dX6_isFit_51 : decode mX6_isFit.2.1 51 = .ok (.ireturn, 1) := by decide +kernel
theorem dX6_isFit_52 : decode mX6_isFit.2.1 52 = .ok (.iload_n 1, 1) := by decide +kernel
theorem dX6_isFit_53 : decode mX6_isFit.2.1 53 = .ok (.i2l, 1) := by decide +kernel
theorem dX6_isFit_54 : decode mX6_isFit.2.1 54 = .ok (.lconst 1, 1) := by decide +kernel
theorem dX6_isFit_55 : decode mX6_isFit.2.1 55 = .ok (.ldc2_w 94, 3) := by decide +kernel
theorem dX6_isFit_58 : decode mX6_isFit.2.1 58 = .ok (.invokestatic 51, 3) := by decide +kernel
theorem dX6_isFit_61 : decode mX6_isFit.2.1 61 = .ok (.ireturn, 1) := by decide +kernel
theorem dX6_isFit_62 : decode mX6_isFit.2.1 62 = .ok (.iload_n 1, 1) := by decide +kernel
theorem dX6_isFit_63 : decode mX6_isFit.2.1 63 = .ok (.i2l, 1) := by decide +kernel
theorem dX6_isFit_64 : decode mX6_isFit.2.1 64 = .ok (.ldc2_w 96, 3) := by decide +kernel
theorem dX6_isFit_67 : decode mX6_isFit.2.1 67 = .ok (.ldc2_w 98, 3) := by decide +kernel
theorem dX6_isFit_70 : decode mX6_isFit.2.1 70 = .ok (.invokestatic 51, 3) := by decide +kernel
theorem dX6_isFit_73 : decode mX6_isFit.2.1 73 = .ok (.ireturn, 1) := by decide +kernel
theorem dX6_isFit_74 : decode mX6_isFit.2.1 74 = .ok (.iload_n 0, 1) := by decide +kernel
theorem dX6_isFit_75 : decode mX6_isFit.2.1 75 = .ok (.iconst 4, 1) := by decide +kernel
theorem dX6_isFit_76 : decode mX6_isFit.2.1 76 = .ok (.if_icmp .ne 19, 3) := by decide +kernel
theorem dX6_isFit_79 : decode mX6_isFit.2.1 79 = .ok (.iload_n 1, 1) := by decide +kernel
theorem dX6_isFit_80 : decode mX6_isFit.2.1 80 = .ok (.i2l, 1) := by decide +kernel
theorem dX6_isFit_81 : decode mX6_isFit.2.1 81 = .ok (.lconst 0, 1) := by decide +kernel
theorem dX6_isFit_82 : decode mX6_isFit.2.1 82 = .ok (.ldc2_w 100, 3) := by decide +kernel
theorem dX6_isFit_85 : decode mX6_isFit.2.1 85 = .ok (.invokestatic 51, 3) := by decide +kernel
theorem dX6_isFit_88 : decode mX6_isFit.2.1 88 = .ok (.ifCond .eq 7, 3) := by decide +kernel
theorem dX6_isFit_91 : decode mX6_isFit.2.1 91 = .ok (.iconst 1, 1) := by decide +kernel
theorem dX6_isFit_92 : decode mX6_isFit.2.1 92 = .ok (.goto 4, 3) := by decide +kernel
theorem dX6_isFit_95 : decode mX6_isFit.2.1 95 = .ok (.iconst 0, 1) := by decide +kernel
theorem dX6_isFit_96 : decode mX6_isFit.2.1 96 = .ok (.ireturn, 1) := by decide +kernel
theorem dX6_change_0 : decode mX6_change.2.1 0 = .ok (.aload_n 0, 1) := by decide +kernel
theorem dX6_change_1 : decode mX6_change.2.1 1 = .ok (.iload_n 1, 1) := by decide +kernel
theorem dX6_change_2 : decode mX6_change.2.1 2 = .ok (.invokevirtual 82, 3) := by decide +kernel
theorem dX6_change_5 : decode mX6_change.2.1 5 = .ok (.ifCond .eq 27, 3) := by decide +kernel
theorem dX6_change_8 : decode mX6_change.2.1 8 = .ok (.iload_n 2, 1) := by decide +kernel
theorem dX6_change_9 : decode mX6_change.2.1 9 = .ok (.iload_n 3, 1) := by decide +kernel
theorem dX6_change_10 : decode mX6_change.2.1 10 = .ok (.invokestatic 102, 3) := by decide +kernel
theorem dX6_change_13 : decode mX6_change.2.1 13 = .ok (.ifCond .eq 19, 3) := by decide +kernel
theorem dX6_change_16 : decode mX6_change.2.1 16 = .ok (.aload_n 0, 1) := by decide +kernel
theorem dX6_change_17 : decode mX6_change.2.1 17 = .ok (.bipush 6, 2) := by decide +kernel
theorem dX6_change_19 : decode mX6_change.2.1 19 = .ok (.iconst 5, 1) := by decide +kernel
theorem dX6_change_20 : decode mX6_change.2.1 20 = .ok (.iload_n 1, 1) := by decide +kernel
theorem dX6_change_21 : decode mX6_change.2.1 21 = .ok (.imul, 1) := by decide +kernel
theorem dX6_change_22 : decode mX6_change.2.1 22 = .ok (.iadd, 1) := by decide +kernel
theorem dX6_change_23 : decode mX6_change.2.1 23 = .ok (.iload_n 2, 1) := by decide +kernel
theorem dX6_change_24 : decode mX6_change.2.1 24 = .ok (.iadd, 1) := by decide +kernel
theorem dX6_change_25 : decode mX6_change.2.1 25 = .ok (.iload_n 3, 1) := by decide +kernel
theorem dX6_change_26 : decode mX6_change.2.1 26 = .ok (.invokevirtual 57, 3) := by decide +kernel
theorem dX6_change_29 : decode mX6_change.2.1 29 = .ok (.goto 9, 3) := by decide +kernel
theorem dX6_change_32 : decode mX6_change.2.1 32 = .ok (.aload_n 0, 1) := by decide +kernel
theorem dX6_change_33 : decode mX6_change.2.1 33 = .ok (.ldc 43, 2) := by decide +kernel
theorem dX6_change_35 : decode mX6_change.2.1 35 = .ok (.invokevirtual 45, 3) := by decide +kernel
theorem dX6_change_38 : decode mX6_change.2.1 38 = .ok (.ireturn, 1) := by decide +kernel
theorem dX6_left_0 : decode mX6_left.2.1 0 = .ok (.aload_n 0, 1) := by decide +kernel
theorem dX6_left_1 : decode mX6_left.2.1 1 = .ok (.iload_n 1, 1) := by decide +kernel
theorem dX6_left_2 : decode mX6_left.2.1 2 = .ok (.invokevirtual 82, 3) := by decide +kernel
theorem dX6_left_5 : decode mX6_left.2.1 5 = .ok (.ifCond .eq 24, 3) := by decide +kernel
theorem dX6_left_8 : decode mX6_left.2.1 8 = .ok (.iload_n 2, 1) := by decide +kernel
theorem dX6_left_9 : decode mX6_left.2.1 9 = .ok (.i2l, 1) := by decide +kernel
theorem dX6_left_10 : decode mX6_left.2.1 10 = .ok (.lconst 0, 1) := by decide +kernel
theorem dX6_left_11 : decode mX6_left.2.1 11 = .ok (.ldc2_w 63, 3) := by decide +kernel
theorem dX6_left_14 : decode mX6_left.2.1 14 = .ok (.invokestatic 51, 3) := by decide +kernel
theorem dX6_left_17 : decode mX6_left.2.1 17 = .ok (.ifCond .eq 12, 3) := by decide +kernel
theorem dX6_left_20 : decode mX6_left.2.1 20 = .ok (.aload_n 0, 1) := by decide +kernel
theorem dX6_left_21 : decode mX6_left.2.1 21 = .ok (.iload_n 1, 1) := by decide +kernel
theorem dX6_left_22 : decode mX6_left.2.1 22 = .ok (.iload_n 2, 1) := by decide +kernel
theorem dX6_left_23 : decode mX6_left.2.1 23 = .ok (.invokevirtual 106, 3) := by decide +kernel
theorem dX6_left_26 : decode mX6_left.2.1 26 = .ok (.goto 9, 3) := by decide +kernel
theorem dX6_left_29 : decode mX6_left.2.1 29 = .ok (.aload_n 0, 1) := by decide +kernel
theorem dX6_left_30 : decode mX6_left.2.1 30 = .ok (.ldc 43, 2) := by decide +kernel
theorem dX6_left_32 : decode mX6_left.2.1 32 = .ok (.invokevirtual 45, 3) := by decide +kernel
theorem dX6_left_35 : decode mX6_left.2.1 35 = .ok (.ireturn, 1) := by decide +kernel
theorem dX6_countsDays_0 : decode mX6_countsDays.2.1 0 = .ok (.iconst 0, 1) := by decide +kernel
theorem dX6_countsDays_1 : decode mX6_countsDays.2.1 1 = .ok (.istore_n 1, 1) := by decide +kernel
theorem dX6_countsDays_2 : decode mX6_countsDays.2.1 2 = .ok (.iload_n 1, 1) := by decide +kernel
theorem dX6_countsDays_3 : decode mX6_countsDays.2.1 3 = .ok (.aload_n 0, 1) := by decide +kernel
theorem dX6_countsDays_4 : decode mX6_countsDays.2.1 4 = .ok (.getfield 7, 3) := by decide +kernel
theorem dX6_countsDays_7 : decode mX6_countsDays.2.1 7 = .ok (.iconst 0, 1) := by decide +kernel
theorem dX6_countsDays_8 : decode mX6_countsDays.2.1 8 = .ok (.iaload, 1) := by decide +kernel
theorem dX6_countsDays_9 : decode mX6_countsDays.2.1 9 = .ok (.if_icmp .ge 20, 3) := by decide +kernel
theorem dX6_countsDays_12 : decode mX6_countsDays.2.1 12 = .ok (.aload_n 0, 1) := by decide +kernel
theorem dX6_countsDays_13 : decode mX6_countsDays.2.1 13 = .ok (.getfield 37, 3) := by decide +kernel
theorem dX6_countsDays_16 : decode mX6_countsDays.2.1 16 = .ok (.iload_n 1, 1) := by decide +kernel
theorem dX6_countsDays_17 : decode mX6_countsDays.2.1 17 = .ok (.aload_n 0, 1) := by decide +kernel
theorem dX6_countsDays_18 : decode mX6_countsDays.2.1 18 = .ok (.iload_n 1, 1) := by decide +kernel
theorem dX6_countsDays_19 : decode mX6_countsDays.2.1 19 = .ok (.invokevirtual 88, 3) := by decide +kernel
theorem dX6_countsDays_22 : decode mX6_countsDays.2.1 22 = .ok (.iastore, 1) := by decide +kernel
theorem dX6_countsDays_23 : decode mX6_countsDays.2.1 23 = .ok (.iinc 1 1, 3) := by decide +kernel
theorem dX6_countsDays_26 : decode mX6_countsDays.2.1 26 = .ok (.goto (-24), 3) := by decide +kernel
theorem dX6_countsDays_29 : decode mX6_countsDays.2.1 29 = .ok (.return_, 1) := by decide +kernel
theorem dX6_mostDays_0 : decode mX6_mostDays.2.1 0 = .ok (.iconst 0, 1) := by decide +kernel
theorem dX6_mostDays_1 : decode mX6_mostDays.2.1 1 = .ok (.istore_n 1, 1) := by decide +kernel
theorem dX6_mostDays_2 : decode mX6_mostDays.2.1 2 = .ok (.iconst 0, 1) := by decide +kernel
theorem dX6_mostDays_3 : decode mX6_mostDays.2.1 3 = .ok (.istore_n 2, 1) := by decide +kernel
theorem dX6_mostDays_4 : decode mX6_mostDays.2.1 4 = .ok (.iload_n 2, 1) := by decide +kernel
theorem dX6_mostDays_5 : decode mX6_mostDays.2.1 5 = .ok (.aload_n 0, 1) := by decide +kernel
theorem dX6_mostDays_6 : decode mX6_mostDays.2.1 6 = .ok (.getfield 7, 3) := by decide +kernel
theorem dX6_mostDays_9 : decode mX6_mostDays.2.1 9 = .ok (.iconst 0, 1) := by decide +kernel
theorem dX6_mostDays_10 : decode mX6_mostDays.2.1 10 = .ok (.iaload, 1) := by decide +kernel
theorem dX6_mostDays_11 : decode mX6_mostDays.2.1 11 = .ok (.if_icmp .ge 20, 3) := by decide +kernel
theorem dX6_mostDays_14 : decode mX6_mostDays.2.1 14 = .ok (.iload_n 1, 1) := by decide +kernel
theorem dX6_mostDays_15 : decode mX6_mostDays.2.1 15 = .ok (.aload_n 0, 1) := by decide +kernel
theorem dX6_mostDays_16 : decode mX6_mostDays.2.1 16 = .ok (.getfield 37, 3) := by decide +kernel
theorem dX6_mostDays_19 : decode mX6_mostDays.2.1 19 = .ok (.iload_n 2, 1) := by decide +kernel
theorem dX6_mostDays_20 : decode mX6_mostDays.2.1 20 = .ok (.iaload, 1) := by decide +kernel
theorem dX6_mostDays_21 : decode mX6_mostDays.2.1 21 = .ok (.invokestatic 73, 3) := by decide +kernel
theorem dX6_mostDays_24 : decode mX6_mostDays.2.1 24 = .ok (.istore_n 1, 1) := by decide +kernel
theorem dX6_mostDays_25 : decode mX6_mostDays.2.1 25 = .ok (.iinc 2 1, 3) := by decide +kernel
theorem dX6_mostDays_28 : decode mX6_mostDays.2.1 28 = .ok (.goto (-24), 3) := by decide +kernel
theorem dX6_mostDays_31 : decode mX6_mostDays.2.1 31 = .ok (.iload_n 1, 1) := by decide +kernel
theorem dX6_mostDays_32 : decode mX6_mostDays.2.1 32 = .ok (.ireturn, 1) := by decide +kernel
theorem dX6_withDays_0 : decode mX6_withDays.2.1 0 = .ok (.iconst 0, 1) := by decide +kernel
theorem dX6_withDays_1 : decode mX6_withDays.2.1 1 = .ok (.istore_n 2, 1) := by decide +kernel
theorem dX6_withDays_2 : decode mX6_withDays.2.1 2 = .ok (.iconst 0, 1) := by decide +kernel
theorem dX6_withDays_3 : decode mX6_withDays.2.1 3 = .ok (.istore_n 3, 1) := by decide +kernel
theorem dX6_withDays_4 : decode mX6_withDays.2.1 4 = .ok (.iload_n 3, 1) := by decide +kernel
theorem dX6_withDays_5 : decode mX6_withDays.2.1 5 = .ok (.aload_n 0, 1) := by decide +kernel
theorem dX6_withDays_6 : decode mX6_withDays.2.1 6 = .ok (.getfield 7, 3) := by decide +kernel
theorem dX6_withDays_9 : decode mX6_withDays.2.1 9 = .ok (.iconst 0, 1) := by decide +kernel
theorem dX6_withDays_10 : decode mX6_withDays.2.1 10 = .ok (.iaload, 1) := by decide +kernel
theorem dX6_withDays_11 : decode mX6_withDays.2.1 11 = .ok (.if_icmp .ge 29, 3) := by decide +kernel
theorem dX6_withDays_14 : decode mX6_withDays.2.1 14 = .ok (.iload_n 2, 1) := by decide +kernel
theorem dX6_withDays_15 : decode mX6_withDays.2.1 15 = .ok (.aload_n 0, 1) := by decide +kernel
theorem dX6_withDays_16 : decode mX6_withDays.2.1 16 = .ok (.getfield 37, 3) := by decide +kernel
theorem dX6_withDays_19 : decode mX6_withDays.2.1 19 = .ok (.iload_n 3, 1) := by decide +kernel
theorem dX6_withDays_20 : decode mX6_withDays.2.1 20 = .ok (.iaload, 1) := by decide +kernel
theorem dX6_withDays_21 : decode mX6_withDays.2.1 21 = .ok (.iload_n 1, 1) := by decide +kernel
theorem dX6_withDays_22 : decode mX6_withDays.2.1 22 = .ok (.if_icmp .ne 9, 3) := by decide +kernel
theorem dX6_withDays_25 : decode mX6_withDays.2.1 25 = .ok (.iconst 1, 1) := by decide +kernel
theorem dX6_withDays_26 : decode mX6_withDays.2.1 26 = .ok (.iload_n 3, 1) := by decide +kernel
theorem dX6_withDays_27 : decode mX6_withDays.2.1 27 = .ok (.ishl, 1) := by decide +kernel
theorem dX6_withDays_28 : decode mX6_withDays.2.1 28 = .ok (.goto 4, 3) := by decide +kernel
theorem dX6_withDays_31 : decode mX6_withDays.2.1 31 = .ok (.iconst 0, 1) := by decide +kernel
theorem dX6_withDays_32 : decode mX6_withDays.2.1 32 = .ok (.ior, 1) := by decide +kernel
theorem dX6_withDays_33 : decode mX6_withDays.2.1 33 = .ok (.istore_n 2, 1) := by decide +kernel
theorem dX6_withDays_34 : decode mX6_withDays.2.1 34 = .ok (.iinc 3 1, 3) := by decide +kernel
theorem dX6_withDays_37 : decode mX6_withDays.2.1 37 = .ok (.goto (-33), 3) := by decide +kernel
theorem dX6_withDays_40 : decode mX6_withDays.2.1 40 = .ok (.iload_n 2, 1) := by decide +kernel
theorem dX6_withDays_41 : decode mX6_withDays.2.1 41 = .ok (.ireturn, 1) := by decide +kernel
theorem dX6_lasts_0 : decode mX6_lasts.2.1 0 = .ok (.aload_n 0, 1) := by decide +kernel
theorem dX6_lasts_1 : decode mX6_lasts.2.1 1 = .ok (.invokevirtual 109, 3) := by decide +kernel
theorem dX6_lasts_4 : decode mX6_lasts.2.1 4 = .ok (.aload_n 0, 1) := by decide +kernel
theorem dX6_lasts_5 : decode mX6_lasts.2.1 5 = .ok (.aload_n 0, 1) := by decide +kernel
theorem dX6_lasts_6 : decode mX6_lasts.2.1 6 = .ok (.invokevirtual 112, 3) := by decide +kernel
theorem dX6_lasts_9 : decode mX6_lasts.2.1 9 = .ok (.invokevirtual 116, 3) := by decide +kernel
theorem dX6_lasts_12 : decode mX6_lasts.2.1 12 = .ok (.ireturn, 1) := by decide +kernel
theorem dX6_firsts_0 : decode mX6_firsts.2.1 0 = .ok (.aload_n 0, 1) := by decide +kernel
theorem dX6_firsts_1 : decode mX6_firsts.2.1 1 = .ok (.invokevirtual 112, 3) := by decide +kernel
theorem dX6_firsts_4 : decode mX6_firsts.2.1 4 = .ok (.istore_n 1, 1) := by decide +kernel
theorem dX6_firsts_5 : decode mX6_firsts.2.1 5 = .ok (.iconst 0, 1) := by decide +kernel
theorem dX6_firsts_6 : decode mX6_firsts.2.1 6 = .ok (.istore_n 2, 1) := by decide +kernel
theorem dX6_firsts_7 : decode mX6_firsts.2.1 7 = .ok (.iload_n 2, 1) := by decide +kernel
theorem dX6_firsts_8 : decode mX6_firsts.2.1 8 = .ok (.aload_n 0, 1) := by decide +kernel
theorem dX6_firsts_9 : decode mX6_firsts.2.1 9 = .ok (.getfield 7, 3) := by decide +kernel
theorem dX6_firsts_12 : decode mX6_firsts.2.1 12 = .ok (.iconst 0, 1) := by decide +kernel
theorem dX6_firsts_13 : decode mX6_firsts.2.1 13 = .ok (.iaload, 1) := by decide +kernel
theorem dX6_firsts_14 : decode mX6_firsts.2.1 14 = .ok (.if_icmp .ge 20, 3) := by decide +kernel
theorem dX6_firsts_17 : decode mX6_firsts.2.1 17 = .ok (.iload_n 1, 1) := by decide +kernel
theorem dX6_firsts_18 : decode mX6_firsts.2.1 18 = .ok (.aload_n 0, 1) := by decide +kernel
theorem dX6_firsts_19 : decode mX6_firsts.2.1 19 = .ok (.getfield 37, 3) := by decide +kernel
theorem dX6_firsts_22 : decode mX6_firsts.2.1 22 = .ok (.iload_n 2, 1) := by decide +kernel
theorem dX6_firsts_23 : decode mX6_firsts.2.1 23 = .ok (.iaload, 1) := by decide +kernel
theorem dX6_firsts_24 : decode mX6_firsts.2.1 24 = .ok (.invokestatic 79, 3) := by decide +kernel
theorem dX6_firsts_27 : decode mX6_firsts.2.1 27 = .ok (.istore_n 1, 1) := by decide +kernel
theorem dX6_firsts_28 : decode mX6_firsts.2.1 28 = .ok (.iinc 2 1, 3) := by decide +kernel
theorem dX6_firsts_31 : decode mX6_firsts.2.1 31 = .ok (.goto (-24), 3) := by decide +kernel
theorem dX6_firsts_34 : decode mX6_firsts.2.1 34 = .ok (.aload_n 0, 1) := by decide +kernel
theorem dX6_firsts_35 : decode mX6_firsts.2.1 35 = .ok (.iload_n 1, 1) := by decide +kernel
theorem dX6_firsts_36 : decode mX6_firsts.2.1 36 = .ok (.invokevirtual 116, 3) := by decide +kernel
theorem dX6_firsts_39 : decode mX6_firsts.2.1 39 = .ok (.ireturn, 1) := by decide +kernel
theorem dX6_last_0 : decode mX6_last.2.1 0 = .ok (.aload_n 0, 1) := by decide +kernel
theorem dX6_last_1 : decode mX6_last.2.1 1 = .ok (.invokevirtual 119, 3) := by decide +kernel
theorem dX6_last_4 : decode mX6_last.2.1 4 = .ok (.ireturn, 1) := by decide +kernel
theorem dX6_first_0 : decode mX6_first.2.1 0 = .ok (.aload_n 0, 1) := by decide +kernel
theorem dX6_first_1 : decode mX6_first.2.1 1 = .ok (.invokevirtual 109, 3) := by decide +kernel
theorem dX6_first_4 : decode mX6_first.2.1 4 = .ok (.aload_n 0, 1) := by decide +kernel
theorem dX6_first_5 : decode mX6_first.2.1 5 = .ok (.invokevirtual 122, 3) := by decide +kernel
theorem dX6_first_8 : decode mX6_first.2.1 8 = .ok (.ireturn, 1) := by decide +kernel
theorem dX6_next_0 : decode mX6_next.2.1 0 = .ok (.aload_n 0, 1) := by decide +kernel
theorem dX6_next_1 : decode mX6_next.2.1 1 = .ok (.invokevirtual 119, 3) := by decide +kernel
theorem dX6_next_4 : decode mX6_next.2.1 4 = .ok (.istore_n 1, 1) := by decide +kernel
theorem dX6_next_5 : decode mX6_next.2.1 5 = .ok (.iconst (-1), 1) := by decide +kernel
theorem dX6_next_6 : decode mX6_next.2.1 6 = .ok (.istore_n 2, 1) := by decide +kernel
theorem dX6_next_7 : decode mX6_next.2.1 7 = .ok (.iconst 0, 1) := by decide +kernel
theorem dX6_next_8 : decode mX6_next.2.1 8 = .ok (.istore_n 3, 1) := by decide +kernel
theorem dX6_next_9 : decode mX6_next.2.1 9 = .ok (.iload_n 3, 1) := by decide +kernel
theorem dX6_next_10 : decode mX6_next.2.1 10 = .ok (.aload_n 0, 1) := by decide +kernel
theorem dX6_next_11 : decode mX6_next.2.1 11 = .ok (.getfield 7, 3) := by decide +kernel
theorem dX6_next_14 : decode mX6_next.2.1 14 = .ok (.iconst 0, 1) := by decide +kernel
theorem dX6_next_15 : decode mX6_next.2.1 15 = .ok (.iaload, 1) := by decide +kernel
theorem dX6_next_16 : decode mX6_next.2.1 16 = .ok (.if_icmp .ge 32, 3) := by decide +kernel
theorem dX6_next_19 : decode mX6_next.2.1 19 = .ok (.iload_n 1, 1) := by decide +kernel
theorem dX6_next_20 : decode mX6_next.2.1 20 = .ok (.iload_n 3, 1) := by decide +kernel
theorem dX6_next_21 : decode mX6_next.2.1 21 = .ok (.ishr, 1) := by decide +kernel
theorem dX6_next_22 : decode mX6_next.2.1 22 = .ok (.iconst 1, 1) := by decide +kernel
theorem dX6_next_23 : decode mX6_next.2.1 23 = .ok (.iand, 1) := by decide +kernel
theorem dX6_next_24 : decode mX6_next.2.1 24 = .ok (.ifCond .ne 16, 3) := by decide +kernel
theorem dX6_next_27 : decode mX6_next.2.1 27 = .ok (.iload_n 2, 1) := by decide +kernel
theorem dX6_next_28 : decode mX6_next.2.1 28 = .ok (.aload_n 0, 1) := by decide +kernel
theorem dX6_next_29 : decode mX6_next.2.1 29 = .ok (.getfield 37, 3) := by decide +kernel
theorem dX6_next_32 : decode mX6_next.2.1 32 = .ok (.iload_n 3, 1) := by decide +kernel
theorem dX6_next_33 : decode mX6_next.2.1 33 = .ok (.iaload, 1) := by decide +kernel
theorem dX6_next_34 : decode mX6_next.2.1 34 = .ok (.invokestatic 73, 3) := by decide +kernel
theorem dX6_next_37 : decode mX6_next.2.1 37 = .ok (.goto 4, 3) := by decide +kernel
theorem dX6_next_40 : decode mX6_next.2.1 40 = .ok (.iload_n 2, 1) := by decide +kernel
theorem dX6_next_41 : decode mX6_next.2.1 41 = .ok (.istore_n 2, 1) := by decide +kernel
theorem dX6_next_42 : decode mX6_next.2.1 42 = .ok (.iinc 3 1, 3) := by decide +kernel
theorem dX6_next_45 : decode mX6_next.2.1 45 = .ok (.goto (-36), 3) := by decide +kernel
theorem dX6_next_48 : decode mX6_next.2.1 48 = .ok (.aload_n 0, 1) := by decide +kernel
theorem dX6_next_49 : decode mX6_next.2.1 49 = .ok (.iload_n 2, 1) := by decide +kernel
theorem dX6_next_50 : decode mX6_next.2.1 50 = .ok (.invokevirtual 116, 3) := by decide +kernel
theorem dX6_next_53 : decode mX6_next.2.1 53 = .ok (.ireturn, 1) := by decide +kernel
theorem dX6_nearer_0 : decode mX6_nearer.2.1 0 = .ok (.iload_n 0, 1) := by decide +kernel
theorem dX6_nearer_1 : decode mX6_nearer.2.1 1 = .ok (.iload_n 1, 1) := by decide +kernel
theorem dX6_nearer_2 : decode mX6_nearer.2.1 2 = .ok (.if_icmp .le 9, 3) := by decide +kernel
theorem dX6_nearer_5 : decode mX6_nearer.2.1 5 = .ok (.iload_n 0, 1) := by decide +kernel
theorem dX6_nearer_6 : decode mX6_nearer.2.1 6 = .ok (.iload_n 1, 1) := by decide +kernel
theorem dX6_nearer_7 : decode mX6_nearer.2.1 7 = .ok (.isub, 1) := by decide +kernel
theorem dX6_nearer_8 : decode mX6_nearer.2.1 8 = .ok (.goto 16, 3) := by decide +kernel
theorem dX6_nearer_11 : decode mX6_nearer.2.1 11 = .ok (.iload_n 0, 1) := by decide +kernel
theorem dX6_nearer_12 : decode mX6_nearer.2.1 12 = .ok (.iload_n 1, 1) := by decide +kernel
theorem dX6_nearer_13 : decode mX6_nearer.2.1 13 = .ok (.ineg, 1) := by decide +kernel
theorem dX6_nearer_14 : decode mX6_nearer.2.1 14 = .ok (.if_icmp .ge 9, 3) := by decide +kernel
theorem dX6_nearer_17 : decode mX6_nearer.2.1 17 = .ok (.iload_n 0, 1) := by decide +kernel
theorem dX6_nearer_18 : decode mX6_nearer.2.1 18 = .ok (.iload_n 1, 1) := by decide +kernel
theorem dX6_nearer_19 : decode mX6_nearer.2.1 19 = .ok (.iadd, 1) := by decide +kernel
theorem dX6_nearer_20 : decode mX6_nearer.2.1 20 = .ok (.goto 4, 3) := by decide +kernel
theorem dX6_nearer_23 : decode mX6_nearer.2.1 23 = .ok (.iconst 0, 1) := by decide +kernel
theorem dX6_nearer_24 : decode mX6_nearer.2.1 24 = .ok (.ireturn, 1) := by decide +kernel
theorem dX6_leanBy_0 : decode mX6_leanBy.2.1 0 = .ok (.iconst 0, 1) := by decide +kernel
theorem dX6_leanBy_1 : decode mX6_leanBy.2.1 1 = .ok (.istore_n 2, 1) := by decide +kernel
theorem dX6_leanBy_2 : decode mX6_leanBy.2.1 2 = .ok (.iconst 0, 1) := by decide +kernel
theorem dX6_leanBy_3 : decode mX6_leanBy.2.1 3 = .ok (.istore_n 3, 1) := by decide +kernel
theorem dX6_leanBy_4 : decode mX6_leanBy.2.1 4 = .ok (.iload_n 3, 1) := by decide +kernel
theorem dX6_leanBy_5 : decode mX6_leanBy.2.1 5 = .ok (.aload_n 0, 1) := by decide +kernel
theorem dX6_leanBy_6 : decode mX6_leanBy.2.1 6 = .ok (.getfield 7, 3) := by decide +kernel
theorem dX6_leanBy_9 : decode mX6_leanBy.2.1 9 = .ok (.iconst 0, 1) := by decide +kernel
theorem dX6_leanBy_10 : decode mX6_leanBy.2.1 10 = .ok (.iaload, 1) := by decide +kernel
theorem dX6_leanBy_11 : decode mX6_leanBy.2.1 11 = .ok (.if_icmp .ge 39, 3) := by decide +kernel
theorem dX6_leanBy_14 : decode mX6_leanBy.2.1 14 = .ok (.iload_n 2, 1) := by decide +kernel
theorem dX6_leanBy_15 : decode mX6_leanBy.2.1 15 = .ok (.aload_n 0, 1) := by decide +kernel
theorem dX6_leanBy_16 : decode mX6_leanBy.2.1 16 = .ok (.iload_n 3, 1) := by decide +kernel
theorem dX6_leanBy_17 : decode mX6_leanBy.2.1 17 = .ok (.iconst 3, 1) := by decide +kernel
theorem dX6_leanBy_18 : decode mX6_leanBy.2.1 18 = .ok (.invokevirtual 70, 3) := by decide +kernel
theorem dX6_leanBy_21 : decode mX6_leanBy.2.1 21 = .ok (.aload_n 0, 1) := by decide +kernel
theorem dX6_leanBy_22 : decode mX6_leanBy.2.1 22 = .ok (.iload_n 3, 1) := by decide +kernel
theorem dX6_leanBy_23 : decode mX6_leanBy.2.1 23 = .ok (.invokevirtual 91, 3) := by decide +kernel
theorem dX6_leanBy_26 : decode mX6_leanBy.2.1 26 = .ok (.imul, 1) := by decide +kernel
theorem dX6_leanBy_27 : decode mX6_leanBy.2.1 27 = .ok (.iload_n 1, 1) := by decide +kernel
theorem dX6_leanBy_28 : decode mX6_leanBy.2.1 28 = .ok (.iload_n 3, 1) := by decide +kernel
theorem dX6_leanBy_29 : decode mX6_leanBy.2.1 29 = .ok (.ishr, 1) := by decide +kernel
theorem dX6_leanBy_30 : decode mX6_leanBy.2.1 30 = .ok (.iconst 1, 1) := by decide +kernel
theorem dX6_leanBy_31 : decode mX6_leanBy.2.1 31 = .ok (.iand, 1) := by decide +kernel
theorem dX6_leanBy_32 : decode mX6_leanBy.2.1 32 = .ok (.iconst 1, 1) := by decide +kernel
theorem dX6_leanBy_33 : decode mX6_leanBy.2.1 33 = .ok (.if_icmp .ne 7, 3) := by decide +kernel
theorem dX6_leanBy_36 : decode mX6_leanBy.2.1 36 = .ok (.iconst 3, 1) := by decide +kernel
theorem dX6_leanBy_37 : decode mX6_leanBy.2.1 37 = .ok (.goto 4, 3) := by decide +kernel
theorem dX6_leanBy_40 : decode mX6_leanBy.2.1 40 = .ok (.iconst 1, 1) := by decide +kernel
theorem dX6_leanBy_41 : decode mX6_leanBy.2.1 41 = .ok (.imul, 1) := by decide +kernel
theorem dX6_leanBy_42 : decode mX6_leanBy.2.1 42 = .ok (.iadd, 1) := by decide +kernel
theorem dX6_leanBy_43 : decode mX6_leanBy.2.1 43 = .ok (.istore_n 2, 1) := by decide +kernel
theorem dX6_leanBy_44 : decode mX6_leanBy.2.1 44 = .ok (.iinc 3 1, 3) := by decide +kernel
theorem dX6_leanBy_47 : decode mX6_leanBy.2.1 47 = .ok (.goto (-43), 3) := by decide +kernel
theorem dX6_leanBy_50 : decode mX6_leanBy.2.1 50 = .ok (.iload_n 2, 1) := by decide +kernel
theorem dX6_leanBy_51 : decode mX6_leanBy.2.1 51 = .ok (.aload_n 0, 1) := by decide +kernel
theorem dX6_leanBy_52 : decode mX6_leanBy.2.1 52 = .ok (.getfield 7, 3) := by decide +kernel
theorem dX6_leanBy_55 : decode mX6_leanBy.2.1 55 = .ok (.iconst 4, 1) := by decide +kernel
theorem dX6_leanBy_56 : decode mX6_leanBy.2.1 56 = .ok (.iaload, 1) := by decide +kernel
theorem dX6_leanBy_57 : decode mX6_leanBy.2.1 57 = .ok (.bipush 10, 2) := by decide +kernel
theorem dX6_leanBy_59 : decode mX6_leanBy.2.1 59 = .ok (.idiv, 1) := by decide +kernel
theorem dX6_leanBy_60 : decode mX6_leanBy.2.1 60 = .ok (.invokestatic 125, 3) := by decide +kernel
theorem dX6_leanBy_63 : decode mX6_leanBy.2.1 63 = .ok (.istore_n 3, 1) := by decide +kernel
theorem dX6_leanBy_64 : decode mX6_leanBy.2.1 64 = .ok (.aload_n 0, 1) := by decide +kernel
theorem dX6_leanBy_65 : decode mX6_leanBy.2.1 65 = .ok (.getfield 7, 3) := by decide +kernel
theorem dX6_leanBy_68 : decode mX6_leanBy.2.1 68 = .ok (.iconst 5, 1) := by decide +kernel
theorem dX6_leanBy_69 : decode mX6_leanBy.2.1 69 = .ok (.iaload, 1) := by decide +kernel
theorem dX6_leanBy_70 : decode mX6_leanBy.2.1 70 = .ok (.bipush 60, 2) := by decide +kernel
theorem dX6_leanBy_72 : decode mX6_leanBy.2.1 72 = .ok (.if_icmp .ge 7, 3) := by decide +kernel
theorem dX6_leanBy_75 : decode mX6_leanBy.2.1 75 = .ok (.iload_n 3, 1) := by decide +kernel
theorem dX6_leanBy_76 : decode mX6_leanBy.2.1 76 = .ok (.goto 5, 3) := by decide +kernel
theorem dX6_leanBy_79 : decode mX6_leanBy.2.1 79 = .ok (.iload_n 3, 1) := by decide +kernel
theorem dX6_leanBy_80 : decode mX6_leanBy.2.1 80 = .ok (.ineg, 1) := by decide +kernel
theorem dX6_leanBy_81 : decode mX6_leanBy.2.1 81 = .ok (.ireturn, 1) := by decide +kernel
theorem dX6_leanNow_0 : decode mX6_leanNow.2.1 0 = .ok (.aload_n 0, 1) := by decide +kernel
theorem dX6_leanNow_1 : decode mX6_leanNow.2.1 1 = .ok (.aload_n 0, 1) := by decide +kernel
theorem dX6_leanNow_2 : decode mX6_leanNow.2.1 2 = .ok (.invokevirtual 119, 3) := by decide +kernel
theorem dX6_leanNow_5 : decode mX6_leanNow.2.1 5 = .ok (.invokevirtual 128, 3) := by decide +kernel
theorem dX6_leanNow_8 : decode mX6_leanNow.2.1 8 = .ok (.ireturn, 1) := by decide +kernel
theorem dX6_lean_0 : decode mX6_lean.2.1 0 = .ok (.aload_n 0, 1) := by decide +kernel
theorem dX6_lean_1 : decode mX6_lean.2.1 1 = .ok (.invokevirtual 131, 3) := by decide +kernel
theorem dX6_lean_4 : decode mX6_lean.2.1 4 = .ok (.ireturn, 1) := by decide +kernel
theorem dX6_isAsked_0 : decode mX6_isAsked.2.1 0 = .ok (.iload_n 0, 1) := by decide +kernel
theorem dX6_isAsked_1 : decode mX6_isAsked.2.1 1 = .ok (.i2l, 1) := by decide +kernel
theorem dX6_isAsked_2 : decode mX6_isAsked.2.1 2 = .ok (.ldc2_w 134, 3) := by decide +kernel
theorem dX6_isAsked_5 : decode mX6_isAsked.2.1 5 = .ok (.ldc2_w 55, 3) := by decide +kernel
theorem dX6_isAsked_8 : decode mX6_isAsked.2.1 8 = .ok (.invokestatic 51, 3) := by decide +kernel
theorem dX6_isAsked_11 : decode mX6_isAsked.2.1 11 = .ok (.ireturn, 1) := by decide +kernel
theorem dX6_answerTo_0 : decode mX6_answerTo.2.1 0 = .ok (.aload_n 0, 1) := by decide +kernel
theorem dX6_answerTo_1 : decode mX6_answerTo.2.1 1 = .ok (.invokevirtual 131, 3) := by decide +kernel
theorem dX6_answerTo_4 : decode mX6_answerTo.2.1 4 = .ok (.iload_n 1, 1) := by decide +kernel
theorem dX6_answerTo_5 : decode mX6_answerTo.2.1 5 = .ok (.if_icmp .lt 7, 3) := by decide +kernel
theorem dX6_answerTo_8 : decode mX6_answerTo.2.1 8 = .ok (.iconst 1, 1) := by decide +kernel
theorem dX6_answerTo_9 : decode mX6_answerTo.2.1 9 = .ok (.goto 4, 3) := by decide +kernel
theorem dX6_answerTo_12 : decode mX6_answerTo.2.1 12 = .ok (.iconst 0, 1) := by decide +kernel
theorem dX6_answerTo_13 : decode mX6_answerTo.2.1 13 = .ok (.ireturn, 1) := by decide +kernel
theorem dX6_answer_0 : decode mX6_answer.2.1 0 = .ok (.iload_n 1, 1) := by decide +kernel
theorem dX6_answer_1 : decode mX6_answer.2.1 1 = .ok (.invokestatic 136, 3) := by decide +kernel
theorem dX6_answer_4 : decode mX6_answer.2.1 4 = .ok (.ifCond .eq 11, 3) := by decide +kernel
theorem dX6_answer_7 : decode mX6_answer.2.1 7 = .ok (.aload_n 0, 1) := by decide +kernel
theorem dX6_answer_8 : decode mX6_answer.2.1 8 = .ok (.iload_n 1, 1) := by decide +kernel
theorem dX6_answer_9 : decode mX6_answer.2.1 9 = .ok (.invokevirtual 139, 3) := by decide +kernel
theorem dX6_answer_12 : decode mX6_answer.2.1 12 = .ok (.goto 9, 3) := by decide +kernel
theorem dX6_answer_15 : decode mX6_answer.2.1 15 = .ok (.aload_n 0, 1) := by decide +kernel
theorem dX6_answer_16 : decode mX6_answer.2.1 16 = .ok (.ldc 43, 2) := by decide +kernel
theorem dX6_answer_18 : decode mX6_answer.2.1 18 = .ok (.invokevirtual 45, 3) := by decide +kernel
theorem dX6_answer_21 : decode mX6_answer.2.1 21 = .ok (.ireturn, 1) := by decide +kernel
theorem dX6_year_0 : decode mX6_year.2.1 0 = .ok (.aload_n 0, 1) := by decide +kernel
theorem dX6_year_1 : decode mX6_year.2.1 1 = .ok (.invokevirtual 119, 3) := by decide +kernel
theorem dX6_year_4 : decode mX6_year.2.1 4 = .ok (.istore_n 1, 1) := by decide +kernel
theorem dX6_year_5 : decode mX6_year.2.1 5 = .ok (.aload_n 0, 1) := by decide +kernel
theorem dX6_year_6 : decode mX6_year.2.1 6 = .ok (.invokevirtual 122, 3) := by decide +kernel
theorem dX6_year_9 : decode mX6_year.2.1 9 = .ok (.istore_n 2, 1) := by decide +kernel
theorem dX6_year_10 : decode mX6_year.2.1 10 = .ok (.aload_n 0, 1) := by decide +kernel
theorem dX6_year_11 : decode mX6_year.2.1 11 = .ok (.iload_n 1, 1) := by decide +kernel
theorem dX6_year_12 : decode mX6_year.2.1 12 = .ok (.invokevirtual 128, 3) := by decide +kernel
theorem dX6_year_15 : decode mX6_year.2.1 15 = .ok (.istore_n 3, 1) := by decide +kernel
theorem dX6_year_16 : decode mX6_year.2.1 16 = .ok (.iload_n 3, 1) := by decide +kernel
theorem dX6_year_17 : decode mX6_year.2.1 17 = .ok (.ifCond .le 7, 3) := by decide +kernel
theorem dX6_year_20 : decode mX6_year.2.1 20 = .ok (.iconst 1, 1) := by decide +kernel
theorem dX6_year_21 : decode mX6_year.2.1 21 = .ok (.goto 12, 3) := by decide +kernel
theorem dX6_year_24 : decode mX6_year.2.1 24 = .ok (.iload_n 3, 1) := by decide +kernel
theorem dX6_year_25 : decode mX6_year.2.1 25 = .ok (.ifCond .ge 7, 3) := by decide +kernel
theorem dX6_year_28 : decode mX6_year.2.1 28 = .ok (.iconst (-1), 1) := by decide +kernel
theorem dX6_year_29 : decode mX6_year.2.1 29 = .ok (.goto 4, 3) := by decide +kernel
theorem dX6_year_32 : decode mX6_year.2.1 32 = .ok (.iconst 0, 1) := by decide +kernel
theorem dX6_year_33 : decode mX6_year.2.1 33 = .ok (.istore 4, 2) := by decide +kernel
theorem dX6_year_35 : decode mX6_year.2.1 35 = .ok (.iconst 0, 1) := by decide +kernel
theorem dX6_year_36 : decode mX6_year.2.1 36 = .ok (.istore 5, 2) := by decide +kernel
theorem dX6_year_38 : decode mX6_year.2.1 38 = .ok (.iload 5, 2) := by decide +kernel
theorem dX6_year_40 : decode mX6_year.2.1 40 = .ok (.aload_n 0, 1) := by decide +kernel
theorem dX6_year_41 : decode mX6_year.2.1 41 = .ok (.getfield 7, 3) := by decide +kernel
theorem dX6_year_44 : decode mX6_year.2.1 44 = .ok (.iconst 0, 1) := by decide +kernel
theorem dX6_year_45 : decode mX6_year.2.1 45 = .ok (.iaload, 1) := by decide +kernel
theorem dX6_year_46 : decode mX6_year.2.1 46 = .ok (.if_icmp .ge 159, 3) := by decide +kernel
theorem dX6_year_49 : decode mX6_year.2.1 49 = .ok (.bipush 6, 2) := by decide +kernel
theorem dX6_year_51 : decode mX6_year.2.1 51 = .ok (.iconst 5, 1) := by decide +kernel
theorem dX6_year_52 : decode mX6_year.2.1 52 = .ok (.iload 5, 2) := by decide +kernel
theorem dX6_year_54 : decode mX6_year.2.1 54 = .ok (.imul, 1) := by decide +kernel
theorem dX6_year_55 : decode mX6_year.2.1 55 = .ok (.iadd, 1) := by decide +kernel
theorem dX6_year_56 : decode mX6_year.2.1 56 = .ok (.istore 6, 2) := by decide +kernel
theorem dX6_year_58 : decode mX6_year.2.1 58 = .ok (.iload_n 1, 1) := by decide +kernel
theorem dX6_year_59 : decode mX6_year.2.1 59 = .ok (.iload 5, 2) := by decide +kernel
theorem dX6_year_61 : decode mX6_year.2.1 61 = .ok (.ishr, 1) := by decide +kernel
theorem dX6_year_62 : decode mX6_year.2.1 62 = .ok (.iconst 1, 1) := by decide +kernel
theorem dX6_year_63 : decode mX6_year.2.1 63 = .ok (.iand, 1) := by decide +kernel
theorem dX6_year_64 : decode mX6_year.2.1 64 = .ok (.iconst 1, 1) := by decide +kernel
theorem dX6_year_65 : decode mX6_year.2.1 65 = .ok (.if_icmp .ne 57, 3) := by decide +kernel
theorem dX6_year_68 : decode mX6_year.2.1 68 = .ok (.aload_n 0, 1) := by decide +kernel
theorem dX6_year_69 : decode mX6_year.2.1 69 = .ok (.getfield 7, 3) := by decide +kernel
theorem dX6_year_72 : decode mX6_year.2.1 72 = .ok (.iload 6, 2) := by decide +kernel
theorem dX6_year_74 : decode mX6_year.2.1 74 = .ok (.iconst 4, 1) := by decide +kernel
theorem dX6_year_75 : decode mX6_year.2.1 75 = .ok (.iadd, 1) := by decide +kernel
theorem dX6_year_76 : decode mX6_year.2.1 76 = .ok (.sipush 9999, 3) := by decide +kernel
theorem dX6_year_79 : decode mX6_year.2.1 79 = .ok (.aload_n 0, 1) := by decide +kernel
theorem dX6_year_80 : decode mX6_year.2.1 80 = .ok (.getfield 7, 3) := by decide +kernel
theorem dX6_year_83 : decode mX6_year.2.1 83 = .ok (.iload 6, 2) := by decide +kernel
theorem dX6_year_85 : decode mX6_year.2.1 85 = .ok (.iconst 4, 1) := by decide +kernel
theorem dX6_year_86 : decode mX6_year.2.1 86 = .ok (.iadd, 1) := by decide +kernel
theorem dX6_year_87 : decode mX6_year.2.1 87 = .ok (.iaload, 1) := by decide +kernel
theorem dX6_year_88 : decode mX6_year.2.1 88 = .ok (.iconst 1, 1) := by decide +kernel
theorem dX6_year_89 : decode mX6_year.2.1 89 = .ok (.iadd, 1) := by decide +kernel
theorem dX6_year_90 : decode mX6_year.2.1 90 = .ok (.invokestatic 79, 3) := by decide +kernel
theorem dX6_year_93 : decode mX6_year.2.1 93 = .ok (.iastore, 1) := by decide +kernel
theorem dX6_year_94 : decode mX6_year.2.1 94 = .ok (.aload_n 0, 1) := by decide +kernel
theorem dX6_year_95 : decode mX6_year.2.1 95 = .ok (.getfield 7, 3) := by decide +kernel
theorem dX6_year_98 : decode mX6_year.2.1 98 = .ok (.iload 6, 2) := by decide +kernel
theorem dX6_year_100 : decode mX6_year.2.1 100 = .ok (.iconst 2, 1) := by decide +kernel
theorem dX6_year_101 : decode mX6_year.2.1 101 = .ok (.iadd, 1) := by decide +kernel
theorem dX6_year_102 : decode mX6_year.2.1 102 = .ok (.bipush 20, 2) := by decide +kernel
theorem dX6_year_104 : decode mX6_year.2.1 104 = .ok (.aload_n 0, 1) := by decide +kernel
theorem dX6_year_105 : decode mX6_year.2.1 105 = .ok (.getfield 7, 3) := by decide +kernel
theorem dX6_year_108 : decode mX6_year.2.1 108 = .ok (.iload 6, 2) := by decide +kernel
theorem dX6_year_110 : decode mX6_year.2.1 110 = .ok (.iconst 2, 1) := by decide +kernel
theorem dX6_year_111 : decode mX6_year.2.1 111 = .ok (.iadd, 1) := by decide +kernel
theorem dX6_year_112 : decode mX6_year.2.1 112 = .ok (.iaload, 1) := by decide +kernel
theorem dX6_year_113 : decode mX6_year.2.1 113 = .ok (.iconst 1, 1) := by decide +kernel
theorem dX6_year_114 : decode mX6_year.2.1 114 = .ok (.iadd, 1) := by decide +kernel
theorem dX6_year_115 : decode mX6_year.2.1 115 = .ok (.invokestatic 79, 3) := by decide +kernel
theorem dX6_year_118 : decode mX6_year.2.1 118 = .ok (.iastore, 1) := by decide +kernel
theorem dX6_year_119 : decode mX6_year.2.1 119 = .ok (.goto 80, 3) := by decide +kernel
theorem dX6_year_122 : decode mX6_year.2.1 122 = .ok (.aload_n 0, 1) := by decide +kernel
theorem dX6_year_123 : decode mX6_year.2.1 123 = .ok (.getfield 7, 3) := by decide +kernel
theorem dX6_year_126 : decode mX6_year.2.1 126 = .ok (.iload 6, 2) := by decide +kernel
theorem dX6_year_128 : decode mX6_year.2.1 128 = .ok (.iconst 2, 1) := by decide +kernel
theorem dX6_year_129 : decode mX6_year.2.1 129 = .ok (.iadd, 1) := by decide +kernel
theorem dX6_year_130 : decode mX6_year.2.1 130 = .ok (.iload_n 2, 1) := by decide +kernel
theorem dX6_year_131 : decode mX6_year.2.1 131 = .ok (.iload 5, 2) := by decide +kernel
theorem dX6_year_133 : decode mX6_year.2.1 133 = .ok (.ishr, 1) := by decide +kernel
theorem dX6_year_134 : decode mX6_year.2.1 134 = .ok (.iconst 1, 1) := by decide +kernel
theorem dX6_year_135 : decode mX6_year.2.1 135 = .ok (.iand, 1) := by decide +kernel
theorem dX6_year_136 : decode mX6_year.2.1 136 = .ok (.iconst 1, 1) := by decide +kernel
theorem dX6_year_137 : decode mX6_year.2.1 137 = .ok (.if_icmp .ne 21, 3) := by decide +kernel
theorem dX6_year_140 : decode mX6_year.2.1 140 = .ok (.iconst 1, 1) := by decide +kernel
theorem dX6_year_141 : decode mX6_year.2.1 141 = .ok (.aload_n 0, 1) := by decide +kernel
theorem dX6_year_142 : decode mX6_year.2.1 142 = .ok (.getfield 7, 3) := by decide +kernel
theorem dX6_year_145 : decode mX6_year.2.1 145 = .ok (.iload 6, 2) := by decide +kernel
theorem dX6_year_147 : decode mX6_year.2.1 147 = .ok (.iconst 2, 1) := by decide +kernel
theorem dX6_year_148 : decode mX6_year.2.1 148 = .ok (.iadd, 1) := by decide +kernel
theorem dX6_year_149 : decode mX6_year.2.1 149 = .ok (.iaload, 1) := by decide +kernel
theorem dX6_year_150 : decode mX6_year.2.1 150 = .ok (.iconst 1, 1) := by decide +kernel
theorem dX6_year_151 : decode mX6_year.2.1 151 = .ok (.isub, 1) := by decide +kernel
theorem dX6_year_152 : decode mX6_year.2.1 152 = .ok (.invokestatic 73, 3) := by decide +kernel
theorem dX6_year_155 : decode mX6_year.2.1 155 = .ok (.goto 12, 3) := by decide +kernel
theorem dX6_year_158 : decode mX6_year.2.1 158 = .ok (.aload_n 0, 1) := by decide +kernel
theorem dX6_year_159 : decode mX6_year.2.1 159 = .ok (.getfield 7, 3) := by decide +kernel
theorem dX6_year_162 : decode mX6_year.2.1 162 = .ok (.iload 6, 2) := by decide +kernel
theorem dX6_year_164 : decode mX6_year.2.1 164 = .ok (.iconst 2, 1) := by decide +kernel
theorem dX6_year_165 : decode mX6_year.2.1 165 = .ok (.iadd, 1) := by decide +kernel
theorem dX6_year_166 : decode mX6_year.2.1 166 = .ok (.iaload, 1) := by decide +kernel
theorem dX6_year_167 : decode mX6_year.2.1 167 = .ok (.iastore, 1) := by decide +kernel
theorem dX6_year_168 : decode mX6_year.2.1 168 = .ok (.aload_n 0, 1) := by decide +kernel
theorem dX6_year_169 : decode mX6_year.2.1 169 = .ok (.getfield 7, 3) := by decide +kernel
theorem dX6_year_172 : decode mX6_year.2.1 172 = .ok (.iload 6, 2) := by decide +kernel
theorem dX6_year_174 : decode mX6_year.2.1 174 = .ok (.iconst 3, 1) := by decide +kernel
theorem dX6_year_175 : decode mX6_year.2.1 175 = .ok (.iadd, 1) := by decide +kernel
theorem dX6_year_176 : decode mX6_year.2.1 176 = .ok (.bipush (-9), 2) := by decide +kernel
theorem dX6_year_178 : decode mX6_year.2.1 178 = .ok (.bipush 9, 2) := by decide +kernel
theorem dX6_year_180 : decode mX6_year.2.1 180 = .ok (.aload_n 0, 1) := by decide +kernel
theorem dX6_year_181 : decode mX6_year.2.1 181 = .ok (.getfield 7, 3) := by decide +kernel
theorem dX6_year_184 : decode mX6_year.2.1 184 = .ok (.iload 6, 2) := by decide +kernel
theorem dX6_year_186 : decode mX6_year.2.1 186 = .ok (.iconst 3, 1) := by decide +kernel
theorem dX6_year_187 : decode mX6_year.2.1 187 = .ok (.iadd, 1) := by decide +kernel
theorem dX6_year_188 : decode mX6_year.2.1 188 = .ok (.iaload, 1) := by decide +kernel
theorem dX6_year_189 : decode mX6_year.2.1 189 = .ok (.iload 4, 2) := by decide +kernel
theorem dX6_year_191 : decode mX6_year.2.1 191 = .ok (.iadd, 1) := by decide +kernel
theorem dX6_year_192 : decode mX6_year.2.1 192 = .ok (.invokestatic 79, 3) := by decide +kernel
theorem dX6_year_195 : decode mX6_year.2.1 195 = .ok (.invokestatic 73, 3) := by decide +kernel
theorem dX6_year_198 : decode mX6_year.2.1 198 = .ok (.iastore, 1) := by decide +kernel
theorem dX6_year_199 : decode mX6_year.2.1 199 = .ok (.iinc 5 1, 3) := by decide +kernel
theorem dX6_year_202 : decode mX6_year.2.1 202 = .ok (.goto (-164), 3) := by decide +kernel
theorem dX6_year_205 : decode mX6_year.2.1 205 = .ok (.aload_n 0, 1) := by decide +kernel
theorem dX6_year_206 : decode mX6_year.2.1 206 = .ok (.getfield 7, 3) := by decide +kernel
theorem dX6_year_209 : decode mX6_year.2.1 209 = .ok (.iconst 1, 1) := by decide +kernel
theorem dX6_year_210 : decode mX6_year.2.1 210 = .ok (.dup2, 1) := by decide +kernel
theorem dX6_year_211 : decode mX6_year.2.1 211 = .ok (.iaload, 1) := by decide +kernel
theorem dX6_year_212 : decode mX6_year.2.1 212 = .ok (.iconst 1, 1) := by decide +kernel
theorem dX6_year_213 : decode mX6_year.2.1 213 = .ok (.iadd, 1) := by decide +kernel
theorem dX6_year_214 : decode mX6_year.2.1 214 = .ok (.iastore, 1) := by decide +kernel
theorem dX6_year_215 : decode mX6_year.2.1 215 = .ok (.return_, 1) := by decide +kernel
theorem dX6_years_0 : decode mX6_years.2.1 0 = .ok (.iconst 0, 1) := by decide +kernel
theorem dX6_years_1 : decode mX6_years.2.1 1 = .ok (.istore_n 2, 1) := by decide +kernel
theorem dX6_years_2 : decode mX6_years.2.1 2 = .ok (.iload_n 2, 1) := by decide +kernel
theorem dX6_years_3 : decode mX6_years.2.1 3 = .ok (.iload_n 1, 1) := by decide +kernel
theorem dX6_years_4 : decode mX6_years.2.1 4 = .ok (.if_icmp .ge 13, 3) := by decide +kernel
theorem dX6_years_7 : decode mX6_years.2.1 7 = .ok (.aload_n 0, 1) := by decide +kernel
theorem dX6_years_8 : decode mX6_years.2.1 8 = .ok (.invokevirtual 142, 3) := by decide +kernel
theorem dX6_years_11 : decode mX6_years.2.1 11 = .ok (.iinc 2 1, 3) := by decide +kernel
theorem dX6_years_14 : decode mX6_years.2.1 14 = .ok (.goto (-12), 3) := by decide +kernel
theorem dX6_years_17 : decode mX6_years.2.1 17 = .ok (.return_, 1) := by decide +kernel
theorem dX6_go_0 : decode mX6_go.2.1 0 = .ok (.iload_n 1, 1) := by decide +kernel
theorem dX6_go_1 : decode mX6_go.2.1 1 = .ok (.i2l, 1) := by decide +kernel
theorem dX6_go_2 : decode mX6_go.2.1 2 = .ok (.lconst 1, 1) := by decide +kernel
theorem dX6_go_3 : decode mX6_go.2.1 3 = .ok (.ldc2_w 145, 3) := by decide +kernel
theorem dX6_go_6 : decode mX6_go.2.1 6 = .ok (.invokestatic 51, 3) := by decide +kernel
theorem dX6_go_9 : decode mX6_go.2.1 9 = .ok (.ifCond .ne 10, 3) := by decide +kernel
theorem dX6_go_12 : decode mX6_go.2.1 12 = .ok (.aload_n 0, 1) := by decide +kernel
theorem dX6_go_13 : decode mX6_go.2.1 13 = .ok (.ldc 43, 2) := by decide +kernel
theorem dX6_go_15 : decode mX6_go.2.1 15 = .ok (.invokevirtual 45, 3) := by decide +kernel
theorem dX6_go_18 : decode mX6_go.2.1 18 = .ok (.ireturn, 1) := by decide +kernel
theorem dX6_go_19 : decode mX6_go.2.1 19 = .ok (.aload_n 0, 1) := by decide +kernel
theorem dX6_go_20 : decode mX6_go.2.1 20 = .ok (.getfield 7, 3) := by decide +kernel
theorem dX6_go_23 : decode mX6_go.2.1 23 = .ok (.iconst 1, 1) := by decide +kernel
theorem dX6_go_24 : decode mX6_go.2.1 24 = .ok (.iaload, 1) := by decide +kernel
theorem dX6_go_25 : decode mX6_go.2.1 25 = .ok (.iload_n 1, 1) := by decide +kernel
theorem dX6_go_26 : decode mX6_go.2.1 26 = .ok (.iadd, 1) := by decide +kernel
theorem dX6_go_27 : decode mX6_go.2.1 27 = .ok (.ldc 147, 2) := by decide +kernel
theorem dX6_go_29 : decode mX6_go.2.1 29 = .ok (.if_icmp .le 10, 3) := by decide +kernel
theorem dX6_go_32 : decode mX6_go.2.1 32 = .ok (.aload_n 0, 1) := by decide +kernel
theorem dX6_go_33 : decode mX6_go.2.1 33 = .ok (.ldc 148, 2) := by decide +kernel
theorem dX6_go_35 : decode mX6_go.2.1 35 = .ok (.invokevirtual 45, 3) := by decide +kernel
theorem dX6_go_38 : decode mX6_go.2.1 38 = .ok (.ireturn, 1) := by decide +kernel
theorem dX6_go_39 : decode mX6_go.2.1 39 = .ok (.aload_n 0, 1) := by decide +kernel
theorem dX6_go_40 : decode mX6_go.2.1 40 = .ok (.iload_n 1, 1) := by decide +kernel
theorem dX6_go_41 : decode mX6_go.2.1 41 = .ok (.invokevirtual 149, 3) := by decide +kernel
theorem dX6_go_44 : decode mX6_go.2.1 44 = .ok (.aload_n 0, 1) := by decide +kernel
theorem dX6_go_45 : decode mX6_go.2.1 45 = .ok (.invokevirtual 131, 3) := by decide +kernel
theorem dX6_go_48 : decode mX6_go.2.1 48 = .ok (.ireturn, 1) := by decide +kernel
theorem dX6_sumOf_0 : decode mX6_sumOf.2.1 0 = .ok (.iconst 0, 1) := by decide +kernel
theorem dX6_sumOf_1 : decode mX6_sumOf.2.1 1 = .ok (.istore_n 2, 1) := by decide +kernel
theorem dX6_sumOf_2 : decode mX6_sumOf.2.1 2 = .ok (.iconst 0, 1) := by decide +kernel
theorem dX6_sumOf_3 : decode mX6_sumOf.2.1 3 = .ok (.istore_n 3, 1) := by decide +kernel
theorem dX6_sumOf_4 : decode mX6_sumOf.2.1 4 = .ok (.iload_n 3, 1) := by decide +kernel
theorem dX6_sumOf_5 : decode mX6_sumOf.2.1 5 = .ok (.aload_n 0, 1) := by decide +kernel
theorem dX6_sumOf_6 : decode mX6_sumOf.2.1 6 = .ok (.getfield 7, 3) := by decide +kernel
theorem dX6_sumOf_9 : decode mX6_sumOf.2.1 9 = .ok (.iconst 0, 1) := by decide +kernel
theorem dX6_sumOf_10 : decode mX6_sumOf.2.1 10 = .ok (.iaload, 1) := by decide +kernel
theorem dX6_sumOf_11 : decode mX6_sumOf.2.1 11 = .ok (.if_icmp .ge 18, 3) := by decide +kernel
theorem dX6_sumOf_14 : decode mX6_sumOf.2.1 14 = .ok (.iload_n 2, 1) := by decide +kernel
theorem dX6_sumOf_15 : decode mX6_sumOf.2.1 15 = .ok (.aload_n 0, 1) := by decide +kernel
theorem dX6_sumOf_16 : decode mX6_sumOf.2.1 16 = .ok (.iload_n 3, 1) := by decide +kernel
theorem dX6_sumOf_17 : decode mX6_sumOf.2.1 17 = .ok (.iload_n 1, 1) := by decide +kernel
theorem dX6_sumOf_18 : decode mX6_sumOf.2.1 18 = .ok (.invokevirtual 70, 3) := by decide +kernel
theorem dX6_sumOf_21 : decode mX6_sumOf.2.1 21 = .ok (.iadd, 1) := by decide +kernel
theorem dX6_sumOf_22 : decode mX6_sumOf.2.1 22 = .ok (.istore_n 2, 1) := by decide +kernel
theorem dX6_sumOf_23 : decode mX6_sumOf.2.1 23 = .ok (.iinc 3 1, 3) := by decide +kernel
theorem dX6_sumOf_26 : decode mX6_sumOf.2.1 26 = .ok (.goto (-22), 3) := by decide +kernel
theorem dX6_sumOf_29 : decode mX6_sumOf.2.1 29 = .ok (.iload_n 2, 1) := by decide +kernel
theorem dX6_sumOf_30 : decode mX6_sumOf.2.1 30 = .ok (.ireturn, 1) := by decide +kernel
theorem dX6_hadEver_0 : decode mX6_hadEver.2.1 0 = .ok (.iconst 0, 1) := by decide +kernel
theorem dX6_hadEver_1 : decode mX6_hadEver.2.1 1 = .ok (.istore_n 1, 1) := by decide +kernel
theorem dX6_hadEver_2 : decode mX6_hadEver.2.1 2 = .ok (.iconst 0, 1) := by decide +kernel
theorem dX6_hadEver_3 : decode mX6_hadEver.2.1 3 = .ok (.istore_n 2, 1) := by decide +kernel
theorem dX6_hadEver_4 : decode mX6_hadEver.2.1 4 = .ok (.iload_n 2, 1) := by decide +kernel
theorem dX6_hadEver_5 : decode mX6_hadEver.2.1 5 = .ok (.aload_n 0, 1) := by decide +kernel
theorem dX6_hadEver_6 : decode mX6_hadEver.2.1 6 = .ok (.getfield 7, 3) := by decide +kernel
theorem dX6_hadEver_9 : decode mX6_hadEver.2.1 9 = .ok (.iconst 0, 1) := by decide +kernel
theorem dX6_hadEver_10 : decode mX6_hadEver.2.1 10 = .ok (.iaload, 1) := by decide +kernel
theorem dX6_hadEver_11 : decode mX6_hadEver.2.1 11 = .ok (.if_icmp .ge 28, 3) := by decide +kernel
theorem dX6_hadEver_14 : decode mX6_hadEver.2.1 14 = .ok (.iload_n 1, 1) := by decide +kernel
theorem dX6_hadEver_15 : decode mX6_hadEver.2.1 15 = .ok (.aload_n 0, 1) := by decide +kernel
theorem dX6_hadEver_16 : decode mX6_hadEver.2.1 16 = .ok (.iload_n 2, 1) := by decide +kernel
theorem dX6_hadEver_17 : decode mX6_hadEver.2.1 17 = .ok (.iconst 4, 1) := by decide +kernel
theorem dX6_hadEver_18 : decode mX6_hadEver.2.1 18 = .ok (.invokevirtual 70, 3) := by decide +kernel
theorem dX6_hadEver_21 : decode mX6_hadEver.2.1 21 = .ok (.ifCond .le 9, 3) := by decide +kernel
theorem dX6_hadEver_24 : decode mX6_hadEver.2.1 24 = .ok (.iconst 1, 1) := by decide +kernel
theorem dX6_hadEver_25 : decode mX6_hadEver.2.1 25 = .ok (.iload_n 2, 1) := by decide +kernel
theorem dX6_hadEver_26 : decode mX6_hadEver.2.1 26 = .ok (.ishl, 1) := by decide +kernel
theorem dX6_hadEver_27 : decode mX6_hadEver.2.1 27 = .ok (.goto 4, 3) := by decide +kernel
theorem dX6_hadEver_30 : decode mX6_hadEver.2.1 30 = .ok (.iconst 0, 1) := by decide +kernel
theorem dX6_hadEver_31 : decode mX6_hadEver.2.1 31 = .ok (.ior, 1) := by decide +kernel
theorem dX6_hadEver_32 : decode mX6_hadEver.2.1 32 = .ok (.istore_n 1, 1) := by decide +kernel
theorem dX6_hadEver_33 : decode mX6_hadEver.2.1 33 = .ok (.iinc 2 1, 3) := by decide +kernel
theorem dX6_hadEver_36 : decode mX6_hadEver.2.1 36 = .ok (.goto (-32), 3) := by decide +kernel
theorem dX6_hadEver_39 : decode mX6_hadEver.2.1 39 = .ok (.iload_n 1, 1) := by decide +kernel
theorem dX6_hadEver_40 : decode mX6_hadEver.2.1 40 = .ok (.ireturn, 1) := by decide +kernel
theorem dX6_now_0 : decode mX6_now.2.1 0 = .ok (.iload_n 1, 1) := by decide +kernel
theorem dX6_now_1 : decode mX6_now.2.1 1 = .ok (.tableswitch 78 0 5 #[39, 46, 52, 58, 63, 69], 39) := by decide +kernel
theorem dX6_now_40 : decode mX6_now.2.1 40 = .ok (.aload_n 0, 1) := by decide +kernel
theorem dX6_now_41 : decode mX6_now.2.1 41 = .ok (.getfield 7, 3) := by decide +kernel
theorem dX6_now_44 : decode mX6_now.2.1 44 = .ok (.iconst 1, 1) := by decide +kernel
theorem dX6_now_45 : decode mX6_now.2.1 45 = .ok (.iaload, 1) := by decide +kernel
theorem dX6_now_46 : decode mX6_now.2.1 46 = .ok (.ireturn, 1) := by decide +kernel
theorem dX6_now_47 : decode mX6_now.2.1 47 = .ok (.aload_n 0, 1) := by decide +kernel
theorem dX6_now_48 : decode mX6_now.2.1 48 = .ok (.iconst 2, 1) := by decide +kernel
theorem dX6_now_49 : decode mX6_now.2.1 49 = .ok (.invokevirtual 153, 3) := by decide +kernel
theorem dX6_now_52 : decode mX6_now.2.1 52 = .ok (.ireturn, 1) := by decide +kernel
theorem dX6_now_53 : decode mX6_now.2.1 53 = .ok (.aload_n 0, 1) := by decide +kernel
theorem dX6_now_54 : decode mX6_now.2.1 54 = .ok (.iconst 3, 1) := by decide +kernel
theorem dX6_now_55 : decode mX6_now.2.1 55 = .ok (.invokevirtual 153, 3) := by decide +kernel
theorem dX6_now_58 : decode mX6_now.2.1 58 = .ok (.ireturn, 1) := by decide +kernel
theorem dX6_now_59 : decode mX6_now.2.1 59 = .ok (.aload_n 0, 1) := by decide +kernel
theorem dX6_now_60 : decode mX6_now.2.1 60 = .ok (.invokevirtual 156, 3) := by decide +kernel
theorem dX6_now_63 : decode mX6_now.2.1 63 = .ok (.ireturn, 1) := by decide +kernel
theorem dX6_now_64 : decode mX6_now.2.1 64 = .ok (.aload_n 0, 1) := by decide +kernel
theorem dX6_now_65 : decode mX6_now.2.1 65 = .ok (.iconst 1, 1) := by decide +kernel
theorem dX6_now_66 : decode mX6_now.2.1 66 = .ok (.invokevirtual 153, 3) := by decide +kernel
theorem dX6_now_69 : decode mX6_now.2.1 69 = .ok (.ireturn, 1) := by decide +kernel
theorem dX6_now_70 : decode mX6_now.2.1 70 = .ok (.aload_n 0, 1) := by decide +kernel
theorem dX6_now_71 : decode mX6_now.2.1 71 = .ok (.invokevirtual 109, 3) := by decide +kernel
theorem dX6_now_74 : decode mX6_now.2.1 74 = .ok (.aload_n 0, 1) := by decide +kernel
theorem dX6_now_75 : decode mX6_now.2.1 75 = .ok (.invokevirtual 112, 3) := by decide +kernel
theorem dX6_now_78 : decode mX6_now.2.1 78 = .ok (.ireturn, 1) := by decide +kernel
theorem dX6_now_79 : decode mX6_now.2.1 79 = .ok (.aload_n 0, 1) := by decide +kernel
theorem dX6_now_80 : decode mX6_now.2.1 80 = .ok (.ldc 43, 2) := by decide +kernel
theorem dX6_now_82 : decode mX6_now.2.1 82 = .ok (.invokevirtual 45, 3) := by decide +kernel
theorem dX6_now_85 : decode mX6_now.2.1 85 = .ok (.ireturn, 1) := by decide +kernel
theorem dX6_isLong_0 : decode mX6_isLong.2.1 0 = .ok (.iload_n 0, 1) := by decide +kernel
theorem dX6_isLong_1 : decode mX6_isLong.2.1 1 = .ok (.i2l, 1) := by decide +kernel
theorem dX6_isLong_2 : decode mX6_isLong.2.1 2 = .ok (.lconst 0, 1) := by decide +kernel
theorem dX6_isLong_3 : decode mX6_isLong.2.1 3 = .ok (.ldc2_w 145, 3) := by decide +kernel
theorem dX6_isLong_6 : decode mX6_isLong.2.1 6 = .ok (.invokestatic 51, 3) := by decide +kernel
theorem dX6_isLong_9 : decode mX6_isLong.2.1 9 = .ok (.ireturn, 1) := by decide +kernel
theorem dX6_holder_0 : decode mX6_holder.2.1 0 = .ok (.iload_n 1, 1) := by decide +kernel
theorem dX6_holder_1 : decode mX6_holder.2.1 1 = .ok (.invokestatic 159, 3) := by decide +kernel
theorem dX6_holder_4 : decode mX6_holder.2.1 4 = .ok (.ifCond .ne 10, 3) := by decide +kernel
theorem dX6_holder_7 : decode mX6_holder.2.1 7 = .ok (.aload_n 0, 1) := by decide +kernel
theorem dX6_holder_8 : decode mX6_holder.2.1 8 = .ok (.ldc 43, 2) := by decide +kernel
theorem dX6_holder_10 : decode mX6_holder.2.1 10 = .ok (.invokevirtual 45, 3) := by decide +kernel
theorem dX6_holder_13 : decode mX6_holder.2.1 13 = .ok (.ireturn, 1) := by decide +kernel
theorem dX6_holder_14 : decode mX6_holder.2.1 14 = .ok (.aload_n 0, 1) := by decide +kernel
theorem dX6_holder_15 : decode mX6_holder.2.1 15 = .ok (.getfield 7, 3) := by decide +kernel
theorem dX6_holder_18 : decode mX6_holder.2.1 18 = .ok (.aload_n 0, 1) := by decide +kernel
theorem dX6_holder_19 : decode mX6_holder.2.1 19 = .ok (.getfield 19, 3) := by decide +kernel
theorem dX6_holder_22 : decode mX6_holder.2.1 22 = .ok (.invokestatic 162, 3) := by decide +kernel
theorem dX6_holder_25 : decode mX6_holder.2.1 25 = .ok (.aload_n 0, 1) := by decide +kernel
theorem dX6_holder_26 : decode mX6_holder.2.1 26 = .ok (.iload_n 1, 1) := by decide +kernel
theorem dX6_holder_27 : decode mX6_holder.2.1 27 = .ok (.invokevirtual 149, 3) := by decide +kernel
theorem dX6_holder_30 : decode mX6_holder.2.1 30 = .ok (.aload_n 0, 1) := by decide +kernel
theorem dX6_holder_31 : decode mX6_holder.2.1 31 = .ok (.invokevirtual 119, 3) := by decide +kernel
theorem dX6_holder_34 : decode mX6_holder.2.1 34 = .ok (.istore_n 2, 1) := by decide +kernel
theorem dX6_holder_35 : decode mX6_holder.2.1 35 = .ok (.aload_n 0, 1) := by decide +kernel
theorem dX6_holder_36 : decode mX6_holder.2.1 36 = .ok (.getfield 19, 3) := by decide +kernel
theorem dX6_holder_39 : decode mX6_holder.2.1 39 = .ok (.aload_n 0, 1) := by decide +kernel
theorem dX6_holder_40 : decode mX6_holder.2.1 40 = .ok (.getfield 7, 3) := by decide +kernel
theorem dX6_holder_43 : decode mX6_holder.2.1 43 = .ok (.invokestatic 162, 3) := by decide +kernel
theorem dX6_holder_46 : decode mX6_holder.2.1 46 = .ok (.iload_n 2, 1) := by decide +kernel
theorem dX6_holder_47 : decode mX6_holder.2.1 47 = .ok (.ireturn, 1) := by decide +kernel
theorem dX6_ahead_0 : decode mX6_ahead.2.1 0 = .ok (.aload_n 0, 1) := by decide +kernel
theorem dX6_ahead_1 : decode mX6_ahead.2.1 1 = .ok (.iload_n 1, 1) := by decide +kernel
theorem dX6_ahead_2 : decode mX6_ahead.2.1 2 = .ok (.invokevirtual 82, 3) := by decide +kernel
theorem dX6_ahead_5 : decode mX6_ahead.2.1 5 = .ok (.ifCond .eq 24, 3) := by decide +kernel
theorem dX6_ahead_8 : decode mX6_ahead.2.1 8 = .ok (.iload_n 2, 1) := by decide +kernel
theorem dX6_ahead_9 : decode mX6_ahead.2.1 9 = .ok (.i2l, 1) := by decide +kernel
theorem dX6_ahead_10 : decode mX6_ahead.2.1 10 = .ok (.ldc2_w 49, 3) := by decide +kernel
theorem dX6_ahead_13 : decode mX6_ahead.2.1 13 = .ok (.ldc2_w 166, 3) := by decide +kernel
theorem dX6_ahead_16 : decode mX6_ahead.2.1 16 = .ok (.invokestatic 51, 3) := by decide +kernel
theorem dX6_ahead_19 : decode mX6_ahead.2.1 19 = .ok (.ifCond .eq 10, 3) := by decide +kernel
theorem dX6_ahead_22 : decode mX6_ahead.2.1 22 = .ok (.iload_n 3, 1) := by decide +kernel
theorem dX6_ahead_23 : decode mX6_ahead.2.1 23 = .ok (.invokestatic 159, 3) := by decide +kernel
theorem dX6_ahead_26 : decode mX6_ahead.2.1 26 = .ok (.ifCond .ne 10, 3) := by decide +kernel
theorem dX6_ahead_29 : decode mX6_ahead.2.1 29 = .ok (.aload_n 0, 1) := by decide +kernel
theorem dX6_ahead_30 : decode mX6_ahead.2.1 30 = .ok (.ldc 43, 2) := by decide +kernel
theorem dX6_ahead_32 : decode mX6_ahead.2.1 32 = .ok (.invokevirtual 45, 3) := by decide +kernel
theorem dX6_ahead_35 : decode mX6_ahead.2.1 35 = .ok (.ireturn, 1) := by decide +kernel
theorem dX6_ahead_36 : decode mX6_ahead.2.1 36 = .ok (.aload_n 0, 1) := by decide +kernel
theorem dX6_ahead_37 : decode mX6_ahead.2.1 37 = .ok (.getfield 7, 3) := by decide +kernel
theorem dX6_ahead_40 : decode mX6_ahead.2.1 40 = .ok (.aload_n 0, 1) := by decide +kernel
theorem dX6_ahead_41 : decode mX6_ahead.2.1 41 = .ok (.getfield 19, 3) := by decide +kernel
theorem dX6_ahead_44 : decode mX6_ahead.2.1 44 = .ok (.invokestatic 162, 3) := by decide +kernel
theorem dX6_ahead_47 : decode mX6_ahead.2.1 47 = .ok (.aload_n 0, 1) := by decide +kernel
theorem dX6_ahead_48 : decode mX6_ahead.2.1 48 = .ok (.iload_n 3, 1) := by decide +kernel
theorem dX6_ahead_49 : decode mX6_ahead.2.1 49 = .ok (.invokevirtual 149, 3) := by decide +kernel
theorem dX6_ahead_52 : decode mX6_ahead.2.1 52 = .ok (.aload_n 0, 1) := by decide +kernel
theorem dX6_ahead_53 : decode mX6_ahead.2.1 53 = .ok (.iload_n 1, 1) := by decide +kernel
theorem dX6_ahead_54 : decode mX6_ahead.2.1 54 = .ok (.iload_n 2, 1) := by decide +kernel
theorem dX6_ahead_55 : decode mX6_ahead.2.1 55 = .ok (.invokevirtual 70, 3) := by decide +kernel
theorem dX6_ahead_58 : decode mX6_ahead.2.1 58 = .ok (.istore 4, 2) := by decide +kernel
theorem dX6_ahead_60 : decode mX6_ahead.2.1 60 = .ok (.aload_n 0, 1) := by decide +kernel
theorem dX6_ahead_61 : decode mX6_ahead.2.1 61 = .ok (.getfield 19, 3) := by decide +kernel
theorem dX6_ahead_64 : decode mX6_ahead.2.1 64 = .ok (.aload_n 0, 1) := by decide +kernel
theorem dX6_ahead_65 : decode mX6_ahead.2.1 65 = .ok (.getfield 7, 3) := by decide +kernel
theorem dX6_ahead_68 : decode mX6_ahead.2.1 68 = .ok (.invokestatic 162, 3) := by decide +kernel
theorem dX6_ahead_71 : decode mX6_ahead.2.1 71 = .ok (.iload 4, 2) := by decide +kernel
theorem dX6_ahead_73 : decode mX6_ahead.2.1 73 = .ok (.ireturn, 1) := by decide +kernel
theorem dX6_leans_0 : decode mX6_leans.2.1 0 = .ok (.iload_n 1, 1) := by decide +kernel
theorem dX6_leans_1 : decode mX6_leans.2.1 1 = .ok (.invokestatic 159, 3) := by decide +kernel
theorem dX6_leans_4 : decode mX6_leans.2.1 4 = .ok (.ifCond .ne 10, 3) := by decide +kernel
theorem dX6_leans_7 : decode mX6_leans.2.1 7 = .ok (.aload_n 0, 1) := by decide +kernel
theorem dX6_leans_8 : decode mX6_leans.2.1 8 = .ok (.ldc 43, 2) := by decide +kernel
theorem dX6_leans_10 : decode mX6_leans.2.1 10 = .ok (.invokevirtual 45, 3) := by decide +kernel
theorem dX6_leans_13 : decode mX6_leans.2.1 13 = .ok (.ireturn, 1) := by decide +kernel
theorem dX6_leans_14 : decode mX6_leans.2.1 14 = .ok (.aload_n 0, 1) := by decide +kernel
theorem dX6_leans_15 : decode mX6_leans.2.1 15 = .ok (.getfield 7, 3) := by decide +kernel
theorem dX6_leans_18 : decode mX6_leans.2.1 18 = .ok (.aload_n 0, 1) := by decide +kernel
theorem dX6_leans_19 : decode mX6_leans.2.1 19 = .ok (.getfield 19, 3) := by decide +kernel
theorem dX6_leans_22 : decode mX6_leans.2.1 22 = .ok (.invokestatic 162, 3) := by decide +kernel
theorem dX6_leans_25 : decode mX6_leans.2.1 25 = .ok (.aload_n 0, 1) := by decide +kernel
theorem dX6_leans_26 : decode mX6_leans.2.1 26 = .ok (.iload_n 1, 1) := by decide +kernel
theorem dX6_leans_27 : decode mX6_leans.2.1 27 = .ok (.invokevirtual 149, 3) := by decide +kernel
theorem dX6_leans_30 : decode mX6_leans.2.1 30 = .ok (.aload_n 0, 1) := by decide +kernel
theorem dX6_leans_31 : decode mX6_leans.2.1 31 = .ok (.invokevirtual 131, 3) := by decide +kernel
theorem dX6_leans_34 : decode mX6_leans.2.1 34 = .ok (.istore_n 2, 1) := by decide +kernel
theorem dX6_leans_35 : decode mX6_leans.2.1 35 = .ok (.aload_n 0, 1) := by decide +kernel
theorem dX6_leans_36 : decode mX6_leans.2.1 36 = .ok (.getfield 19, 3) := by decide +kernel
theorem dX6_leans_39 : decode mX6_leans.2.1 39 = .ok (.aload_n 0, 1) := by decide +kernel
theorem dX6_leans_40 : decode mX6_leans.2.1 40 = .ok (.getfield 7, 3) := by decide +kernel
theorem dX6_leans_43 : decode mX6_leans.2.1 43 = .ok (.invokestatic 162, 3) := by decide +kernel
theorem dX6_leans_46 : decode mX6_leans.2.1 46 = .ok (.iload_n 2, 1) := by decide +kernel
theorem dX6_leans_47 : decode mX6_leans.2.1 47 = .ok (.ireturn, 1) := by decide +kernel
theorem dX6_when_0 : decode mX6_when.2.1 0 = .ok (.aload_n 0, 1) := by decide +kernel
theorem dX6_when_1 : decode mX6_when.2.1 1 = .ok (.iload_n 1, 1) := by decide +kernel
theorem dX6_when_2 : decode mX6_when.2.1 2 = .ok (.invokevirtual 82, 3) := by decide +kernel
theorem dX6_when_5 : decode mX6_when.2.1 5 = .ok (.ifCond .ne 10, 3) := by decide +kernel
theorem dX6_when_8 : decode mX6_when.2.1 8 = .ok (.aload_n 0, 1) := by decide +kernel
theorem dX6_when_9 : decode mX6_when.2.1 9 = .ok (.ldc 43, 2) := by decide +kernel
theorem dX6_when_11 : decode mX6_when.2.1 11 = .ok (.invokevirtual 45, 3) := by decide +kernel
theorem dX6_when_14 : decode mX6_when.2.1 14 = .ok (.ireturn, 1) := by decide +kernel
theorem dX6_when_15 : decode mX6_when.2.1 15 = .ok (.aload_n 0, 1) := by decide +kernel
theorem dX6_when_16 : decode mX6_when.2.1 16 = .ok (.getfield 7, 3) := by decide +kernel
theorem dX6_when_19 : decode mX6_when.2.1 19 = .ok (.aload_n 0, 1) := by decide +kernel
theorem dX6_when_20 : decode mX6_when.2.1 20 = .ok (.getfield 19, 3) := by decide +kernel
theorem dX6_when_23 : decode mX6_when.2.1 23 = .ok (.invokestatic 162, 3) := by decide +kernel
theorem dX6_when_26 : decode mX6_when.2.1 26 = .ok (.iconst 0, 1) := by decide +kernel
theorem dX6_when_27 : decode mX6_when.2.1 27 = .ok (.istore_n 2, 1) := by decide +kernel
theorem dX6_when_28 : decode mX6_when.2.1 28 = .ok (.iload_n 2, 1) := by decide +kernel
theorem dX6_when_29 : decode mX6_when.2.1 29 = .ok (.bipush 60, 2) := by decide +kernel
theorem dX6_when_31 : decode mX6_when.2.1 31 = .ok (.if_icmp .gt 24, 3) := by decide +kernel
theorem dX6_when_34 : decode mX6_when.2.1 34 = .ok (.aload_n 0, 1) := by decide +kernel
theorem dX6_when_35 : decode mX6_when.2.1 35 = .ok (.invokevirtual 119, 3) := by decide +kernel
theorem dX6_when_38 : decode mX6_when.2.1 38 = .ok (.iload_n 1, 1) := by decide +kernel
theorem dX6_when_39 : decode mX6_when.2.1 39 = .ok (.ishr, 1) := by decide +kernel
theorem dX6_when_40 : decode mX6_when.2.1 40 = .ok (.iconst 1, 1) := by decide +kernel
theorem dX6_when_41 : decode mX6_when.2.1 41 = .ok (.iand, 1) := by decide +kernel
theorem dX6_when_42 : decode mX6_when.2.1 42 = .ok (.ifCond .ne 13, 3) := by decide +kernel
theorem dX6_when_45 : decode mX6_when.2.1 45 = .ok (.aload_n 0, 1) := by decide +kernel
theorem dX6_when_46 : decode mX6_when.2.1 46 = .ok (.invokevirtual 142, 3) := by decide +kernel
theorem dX6_when_49 : decode mX6_when.2.1 49 = .ok (.iinc 2 1, 3) := by decide +kernel
theorem dX6_when_52 : decode mX6_when.2.1 52 = .ok (.goto (-24), 3) := by decide +kernel
theorem dX6_when_55 : decode mX6_when.2.1 55 = .ok (.aload_n 0, 1) := by decide +kernel
theorem dX6_when_56 : decode mX6_when.2.1 56 = .ok (.getfield 19, 3) := by decide +kernel
theorem dX6_when_59 : decode mX6_when.2.1 59 = .ok (.aload_n 0, 1) := by decide +kernel
theorem dX6_when_60 : decode mX6_when.2.1 60 = .ok (.getfield 7, 3) := by decide +kernel
theorem dX6_when_63 : decode mX6_when.2.1 63 = .ok (.invokestatic 162, 3) := by decide +kernel
theorem dX6_when_66 : decode mX6_when.2.1 66 = .ok (.iload_n 2, 1) := by decide +kernel
theorem dX6_when_67 : decode mX6_when.2.1 67 = .ok (.bipush 60, 2) := by decide +kernel
theorem dX6_when_69 : decode mX6_when.2.1 69 = .ok (.if_icmp .gt 7, 3) := by decide +kernel
theorem dX6_when_72 : decode mX6_when.2.1 72 = .ok (.iload_n 2, 1) := by decide +kernel
theorem dX6_when_73 : decode mX6_when.2.1 73 = .ok (.goto 9, 3) := by decide +kernel
theorem dX6_when_76 : decode mX6_when.2.1 76 = .ok (.aload_n 0, 1) := by decide +kernel
theorem dX6_when_77 : decode mX6_when.2.1 77 = .ok (.ldc 44, 2) := by decide +kernel
theorem dX6_when_79 : decode mX6_when.2.1 79 = .ok (.invokevirtual 45, 3) := by decide +kernel
theorem dX6_when_82 : decode mX6_when.2.1 82 = .ok (.ireturn, 1) := by decide +kernel
theorem dX6_tie_0 : decode mX6_tie.2.1 0 = .ok (.aload_n 0, 1) := by decide +kernel
theorem dX6_tie_1 : decode mX6_tie.2.1 1 = .ok (.getfield 7, 3) := by decide +kernel
theorem dX6_tie_4 : decode mX6_tie.2.1 4 = .ok (.aload_n 0, 1) := by decide +kernel
theorem dX6_tie_5 : decode mX6_tie.2.1 5 = .ok (.getfield 19, 3) := by decide +kernel
theorem dX6_tie_8 : decode mX6_tie.2.1 8 = .ok (.invokestatic 162, 3) := by decide +kernel
theorem dX6_tie_11 : decode mX6_tie.2.1 11 = .ok (.iconst 0, 1) := by decide +kernel
theorem dX6_tie_12 : decode mX6_tie.2.1 12 = .ok (.istore_n 1, 1) := by decide +kernel
theorem dX6_tie_13 : decode mX6_tie.2.1 13 = .ok (.iload_n 1, 1) := by decide +kernel
theorem dX6_tie_14 : decode mX6_tie.2.1 14 = .ok (.bipush 60, 2) := by decide +kernel
theorem dX6_tie_16 : decode mX6_tie.2.1 16 = .ok (.if_icmp .gt 24, 3) := by decide +kernel
theorem dX6_tie_19 : decode mX6_tie.2.1 19 = .ok (.aload_n 0, 1) := by decide +kernel
theorem dX6_tie_20 : decode mX6_tie.2.1 20 = .ok (.invokevirtual 119, 3) := by decide +kernel
theorem dX6_tie_23 : decode mX6_tie.2.1 23 = .ok (.invokestatic 168, 3) := by decide +kernel
theorem dX6_tie_26 : decode mX6_tie.2.1 26 = .ok (.iconst 2, 1) := by decide +kernel
theorem dX6_tie_27 : decode mX6_tie.2.1 27 = .ok (.if_icmp .ge 13, 3) := by decide +kernel
theorem dX6_tie_30 : decode mX6_tie.2.1 30 = .ok (.aload_n 0, 1) := by decide +kernel
theorem dX6_tie_31 : decode mX6_tie.2.1 31 = .ok (.invokevirtual 142, 3) := by decide +kernel
theorem dX6_tie_34 : decode mX6_tie.2.1 34 = .ok (.iinc 1 1, 3) := by decide +kernel
theorem dX6_tie_37 : decode mX6_tie.2.1 37 = .ok (.goto (-24), 3) := by decide +kernel
theorem dX6_tie_40 : decode mX6_tie.2.1 40 = .ok (.aload_n 0, 1) := by decide +kernel
theorem dX6_tie_41 : decode mX6_tie.2.1 41 = .ok (.getfield 19, 3) := by decide +kernel
theorem dX6_tie_44 : decode mX6_tie.2.1 44 = .ok (.aload_n 0, 1) := by decide +kernel
theorem dX6_tie_45 : decode mX6_tie.2.1 45 = .ok (.getfield 7, 3) := by decide +kernel
theorem dX6_tie_48 : decode mX6_tie.2.1 48 = .ok (.invokestatic 162, 3) := by decide +kernel
theorem dX6_tie_51 : decode mX6_tie.2.1 51 = .ok (.iload_n 1, 1) := by decide +kernel
theorem dX6_tie_52 : decode mX6_tie.2.1 52 = .ok (.bipush 60, 2) := by decide +kernel
theorem dX6_tie_54 : decode mX6_tie.2.1 54 = .ok (.if_icmp .gt 7, 3) := by decide +kernel
theorem dX6_tie_57 : decode mX6_tie.2.1 57 = .ok (.iload_n 1, 1) := by decide +kernel
theorem dX6_tie_58 : decode mX6_tie.2.1 58 = .ok (.goto 9, 3) := by decide +kernel
theorem dX6_tie_61 : decode mX6_tie.2.1 61 = .ok (.aload_n 0, 1) := by decide +kernel
theorem dX6_tie_62 : decode mX6_tie.2.1 62 = .ok (.ldc 44, 2) := by decide +kernel
theorem dX6_tie_64 : decode mX6_tie.2.1 64 = .ok (.invokevirtual 45, 3) := by decide +kernel
theorem dX6_tie_67 : decode mX6_tie.2.1 67 = .ok (.ireturn, 1) := by decide +kernel
theorem dX6_turns_0 : decode mX6_turns.2.1 0 = .ok (.iload_n 1, 1) := by decide +kernel
theorem dX6_turns_1 : decode mX6_turns.2.1 1 = .ok (.invokestatic 136, 3) := by decide +kernel
theorem dX6_turns_4 : decode mX6_turns.2.1 4 = .ok (.ifCond .ne 10, 3) := by decide +kernel
theorem dX6_turns_7 : decode mX6_turns.2.1 7 = .ok (.aload_n 0, 1) := by decide +kernel
theorem dX6_turns_8 : decode mX6_turns.2.1 8 = .ok (.ldc 43, 2) := by decide +kernel
theorem dX6_turns_10 : decode mX6_turns.2.1 10 = .ok (.invokevirtual 45, 3) := by decide +kernel
theorem dX6_turns_13 : decode mX6_turns.2.1 13 = .ok (.ireturn, 1) := by decide +kernel
theorem dX6_turns_14 : decode mX6_turns.2.1 14 = .ok (.aload_n 0, 1) := by decide +kernel
theorem dX6_turns_15 : decode mX6_turns.2.1 15 = .ok (.getfield 7, 3) := by decide +kernel
theorem dX6_turns_18 : decode mX6_turns.2.1 18 = .ok (.aload_n 0, 1) := by decide +kernel
theorem dX6_turns_19 : decode mX6_turns.2.1 19 = .ok (.getfield 19, 3) := by decide +kernel
theorem dX6_turns_22 : decode mX6_turns.2.1 22 = .ok (.invokestatic 162, 3) := by decide +kernel
theorem dX6_turns_25 : decode mX6_turns.2.1 25 = .ok (.aload_n 0, 1) := by decide +kernel
theorem dX6_turns_26 : decode mX6_turns.2.1 26 = .ok (.iload_n 1, 1) := by decide +kernel
theorem dX6_turns_27 : decode mX6_turns.2.1 27 = .ok (.invokevirtual 139, 3) := by decide +kernel
theorem dX6_turns_30 : decode mX6_turns.2.1 30 = .ok (.istore_n 2, 1) := by decide +kernel
theorem dX6_turns_31 : decode mX6_turns.2.1 31 = .ok (.iconst 0, 1) := by decide +kernel
theorem dX6_turns_32 : decode mX6_turns.2.1 32 = .ok (.istore_n 3, 1) := by decide +kernel
theorem dX6_turns_33 : decode mX6_turns.2.1 33 = .ok (.iload_n 3, 1) := by decide +kernel
theorem dX6_turns_34 : decode mX6_turns.2.1 34 = .ok (.bipush 60, 2) := by decide +kernel
theorem dX6_turns_36 : decode mX6_turns.2.1 36 = .ok (.if_icmp .gt 22, 3) := by decide +kernel
theorem dX6_turns_39 : decode mX6_turns.2.1 39 = .ok (.aload_n 0, 1) := by decide +kernel
theorem dX6_turns_40 : decode mX6_turns.2.1 40 = .ok (.iload_n 1, 1) := by decide +kernel
theorem dX6_turns_41 : decode mX6_turns.2.1 41 = .ok (.invokevirtual 139, 3) := by decide +kernel
theorem dX6_turns_44 : decode mX6_turns.2.1 44 = .ok (.iload_n 2, 1) := by decide +kernel
theorem dX6_turns_45 : decode mX6_turns.2.1 45 = .ok (.if_icmp .ne 13, 3) := by decide +kernel
theorem dX6_turns_48 : decode mX6_turns.2.1 48 = .ok (.aload_n 0, 1) := by decide +kernel
theorem dX6_turns_49 : decode mX6_turns.2.1 49 = .ok (.invokevirtual 142, 3) := by decide +kernel
theorem dX6_turns_52 : decode mX6_turns.2.1 52 = .ok (.iinc 3 1, 3) := by decide +kernel
theorem dX6_turns_55 : decode mX6_turns.2.1 55 = .ok (.goto (-22), 3) := by decide +kernel
theorem dX6_turns_58 : decode mX6_turns.2.1 58 = .ok (.aload_n 0, 1) := by decide +kernel
theorem dX6_turns_59 : decode mX6_turns.2.1 59 = .ok (.getfield 19, 3) := by decide +kernel
theorem dX6_turns_62 : decode mX6_turns.2.1 62 = .ok (.aload_n 0, 1) := by decide +kernel
theorem dX6_turns_63 : decode mX6_turns.2.1 63 = .ok (.getfield 7, 3) := by decide +kernel
theorem dX6_turns_66 : decode mX6_turns.2.1 66 = .ok (.invokestatic 162, 3) := by decide +kernel
theorem dX6_turns_69 : decode mX6_turns.2.1 69 = .ok (.iload_n 3, 1) := by decide +kernel
theorem dX6_turns_70 : decode mX6_turns.2.1 70 = .ok (.bipush 60, 2) := by decide +kernel
theorem dX6_turns_72 : decode mX6_turns.2.1 72 = .ok (.if_icmp .gt 7, 3) := by decide +kernel
theorem dX6_turns_75 : decode mX6_turns.2.1 75 = .ok (.iload_n 3, 1) := by decide +kernel
theorem dX6_turns_76 : decode mX6_turns.2.1 76 = .ok (.goto 9, 3) := by decide +kernel
theorem dX6_turns_79 : decode mX6_turns.2.1 79 = .ok (.aload_n 0, 1) := by decide +kernel
theorem dX6_turns_80 : decode mX6_turns.2.1 80 = .ok (.ldc 44, 2) := by decide +kernel
theorem dX6_turns_82 : decode mX6_turns.2.1 82 = .ok (.invokevirtual 45, 3) := by decide +kernel
theorem dX6_turns_85 : decode mX6_turns.2.1 85 = .ok (.ireturn, 1) := by decide +kernel
theorem dX6_isLast_0 : decode mX6_isLast.2.1 0 = .ok (.aload_n 0, 1) := by decide +kernel
theorem dX6_isLast_1 : decode mX6_isLast.2.1 1 = .ok (.invokevirtual 119, 3) := by decide +kernel
theorem dX6_isLast_4 : decode mX6_isLast.2.1 4 = .ok (.iload_n 1, 1) := by decide +kernel
theorem dX6_isLast_5 : decode mX6_isLast.2.1 5 = .ok (.ishr, 1) := by decide +kernel
theorem dX6_isLast_6 : decode mX6_isLast.2.1 6 = .ok (.iconst 1, 1) := by decide +kernel
theorem dX6_isLast_7 : decode mX6_isLast.2.1 7 = .ok (.iand, 1) := by decide +kernel
theorem dX6_isLast_8 : decode mX6_isLast.2.1 8 = .ok (.iconst 1, 1) := by decide +kernel
theorem dX6_isLast_9 : decode mX6_isLast.2.1 9 = .ok (.if_icmp .ne 7, 3) := by decide +kernel
theorem dX6_isLast_12 : decode mX6_isLast.2.1 12 = .ok (.iconst 1, 1) := by decide +kernel
theorem dX6_isLast_13 : decode mX6_isLast.2.1 13 = .ok (.goto 4, 3) := by decide +kernel
theorem dX6_isLast_16 : decode mX6_isLast.2.1 16 = .ok (.iconst 0, 1) := by decide +kernel
theorem dX6_isLast_17 : decode mX6_isLast.2.1 17 = .ok (.ireturn, 1) := by decide +kernel
theorem dX6_mostHands_0 : decode mX6_mostHands.2.1 0 = .ok (.aload_n 0, 1) := by decide +kernel
theorem dX6_mostHands_1 : decode mX6_mostHands.2.1 1 = .ok (.iload_n 1, 1) := by decide +kernel
theorem dX6_mostHands_2 : decode mX6_mostHands.2.1 2 = .ok (.invokevirtual 82, 3) := by decide +kernel
theorem dX6_mostHands_5 : decode mX6_mostHands.2.1 5 = .ok (.ifCond .ne 10, 3) := by decide +kernel
theorem dX6_mostHands_8 : decode mX6_mostHands.2.1 8 = .ok (.aload_n 0, 1) := by decide +kernel
theorem dX6_mostHands_9 : decode mX6_mostHands.2.1 9 = .ok (.ldc 43, 2) := by decide +kernel
theorem dX6_mostHands_11 : decode mX6_mostHands.2.1 11 = .ok (.invokevirtual 45, 3) := by decide +kernel
theorem dX6_mostHands_14 : decode mX6_mostHands.2.1 14 = .ok (.ireturn, 1) := by decide +kernel
theorem dX6_mostHands_15 : decode mX6_mostHands.2.1 15 = .ok (.bipush 6, 2) := by decide +kernel
theorem dX6_mostHands_17 : decode mX6_mostHands.2.1 17 = .ok (.iconst 5, 1) := by decide +kernel
theorem dX6_mostHands_18 : decode mX6_mostHands.2.1 18 = .ok (.iload_n 1, 1) := by decide +kernel
theorem dX6_mostHands_19 : decode mX6_mostHands.2.1 19 = .ok (.imul, 1) := by decide +kernel
theorem dX6_mostHands_20 : decode mX6_mostHands.2.1 20 = .ok (.iadd, 1) := by decide +kernel
theorem dX6_mostHands_21 : decode mX6_mostHands.2.1 21 = .ok (.iconst 2, 1) := by decide +kernel
theorem dX6_mostHands_22 : decode mX6_mostHands.2.1 22 = .ok (.iadd, 1) := by decide +kernel
theorem dX6_mostHands_23 : decode mX6_mostHands.2.1 23 = .ok (.istore_n 2, 1) := by decide +kernel
theorem dX6_mostHands_24 : decode mX6_mostHands.2.1 24 = .ok (.aload_n 0, 1) := by decide +kernel
theorem dX6_mostHands_25 : decode mX6_mostHands.2.1 25 = .ok (.getfield 7, 3) := by decide +kernel
theorem dX6_mostHands_28 : decode mX6_mostHands.2.1 28 = .ok (.iload_n 2, 1) := by decide +kernel
theorem dX6_mostHands_29 : decode mX6_mostHands.2.1 29 = .ok (.iaload, 1) := by decide +kernel
theorem dX6_mostHands_30 : decode mX6_mostHands.2.1 30 = .ok (.istore_n 3, 1) := by decide +kernel
theorem dX6_mostHands_31 : decode mX6_mostHands.2.1 31 = .ok (.aload_n 0, 1) := by decide +kernel
theorem dX6_mostHands_32 : decode mX6_mostHands.2.1 32 = .ok (.getfield 7, 3) := by decide +kernel
theorem dX6_mostHands_35 : decode mX6_mostHands.2.1 35 = .ok (.iload_n 2, 1) := by decide +kernel
theorem dX6_mostHands_36 : decode mX6_mostHands.2.1 36 = .ok (.bipush 20, 2) := by decide +kernel
theorem dX6_mostHands_38 : decode mX6_mostHands.2.1 38 = .ok (.iastore, 1) := by decide +kernel
theorem dX6_mostHands_39 : decode mX6_mostHands.2.1 39 = .ok (.aload_n 0, 1) := by decide +kernel
theorem dX6_mostHands_40 : decode mX6_mostHands.2.1 40 = .ok (.getfield 7, 3) := by decide +kernel
theorem dX6_mostHands_43 : decode mX6_mostHands.2.1 43 = .ok (.iload_n 2, 1) := by decide +kernel
theorem dX6_mostHands_44 : decode mX6_mostHands.2.1 44 = .ok (.iaload, 1) := by decide +kernel
theorem dX6_mostHands_45 : decode mX6_mostHands.2.1 45 = .ok (.ifCond .le 24, 3) := by decide +kernel
theorem dX6_mostHands_48 : decode mX6_mostHands.2.1 48 = .ok (.aload_n 0, 1) := by decide +kernel
theorem dX6_mostHands_49 : decode mX6_mostHands.2.1 49 = .ok (.iload_n 1, 1) := by decide +kernel
theorem dX6_mostHands_50 : decode mX6_mostHands.2.1 50 = .ok (.invokevirtual 171, 3) := by decide +kernel
theorem dX6_mostHands_53 : decode mX6_mostHands.2.1 53 = .ok (.ifCond .ne 16, 3) := by decide +kernel
theorem dX6_mostHands_56 : decode mX6_mostHands.2.1 56 = .ok (.aload_n 0, 1) := by decide +kernel
theorem dX6_mostHands_57 : decode mX6_mostHands.2.1 57 = .ok (.getfield 7, 3) := by decide +kernel
theorem dX6_mostHands_60 : decode mX6_mostHands.2.1 60 = .ok (.iload_n 2, 1) := by decide +kernel
theorem dX6_mostHands_61 : decode mX6_mostHands.2.1 61 = .ok (.dup2, 1) := by decide +kernel
theorem dX6_mostHands_62 : decode mX6_mostHands.2.1 62 = .ok (.iaload, 1) := by decide +kernel
theorem dX6_mostHands_63 : decode mX6_mostHands.2.1 63 = .ok (.iconst 1, 1) := by decide +kernel
theorem dX6_mostHands_64 : decode mX6_mostHands.2.1 64 = .ok (.isub, 1) := by decide +kernel
theorem dX6_mostHands_65 : decode mX6_mostHands.2.1 65 = .ok (.iastore, 1) := by decide +kernel
theorem dX6_mostHands_66 : decode mX6_mostHands.2.1 66 = .ok (.goto (-27), 3) := by decide +kernel
theorem dX6_mostHands_69 : decode mX6_mostHands.2.1 69 = .ok (.aload_n 0, 1) := by decide +kernel
theorem dX6_mostHands_70 : decode mX6_mostHands.2.1 70 = .ok (.getfield 7, 3) := by decide +kernel
theorem dX6_mostHands_73 : decode mX6_mostHands.2.1 73 = .ok (.iload_n 2, 1) := by decide +kernel
theorem dX6_mostHands_74 : decode mX6_mostHands.2.1 74 = .ok (.iaload, 1) := by decide +kernel
theorem dX6_mostHands_75 : decode mX6_mostHands.2.1 75 = .ok (.istore 4, 2) := by decide +kernel
theorem dX6_mostHands_77 : decode mX6_mostHands.2.1 77 = .ok (.aload_n 0, 1) := by decide +kernel
theorem dX6_mostHands_78 : decode mX6_mostHands.2.1 78 = .ok (.getfield 7, 3) := by decide +kernel
theorem dX6_mostHands_81 : decode mX6_mostHands.2.1 81 = .ok (.iload_n 2, 1) := by decide +kernel
theorem dX6_mostHands_82 : decode mX6_mostHands.2.1 82 = .ok (.iload_n 3, 1) := by decide +kernel
theorem dX6_mostHands_83 : decode mX6_mostHands.2.1 83 = .ok (.iastore, 1) := by decide +kernel
theorem dX6_mostHands_84 : decode mX6_mostHands.2.1 84 = .ok (.iload 4, 2) := by decide +kernel
theorem dX6_mostHands_86 : decode mX6_mostHands.2.1 86 = .ok (.ifCond .le 8, 3) := by decide +kernel
theorem dX6_mostHands_89 : decode mX6_mostHands.2.1 89 = .ok (.iload 4, 2) := by decide +kernel
theorem dX6_mostHands_91 : decode mX6_mostHands.2.1 91 = .ok (.goto 9, 3) := by decide +kernel
theorem dX6_mostHands_94 : decode mX6_mostHands.2.1 94 = .ok (.aload_n 0, 1) := by decide +kernel
theorem dX6_mostHands_95 : decode mX6_mostHands.2.1 95 = .ok (.ldc 44, 2) := by decide +kernel
theorem dX6_mostHands_97 : decode mX6_mostHands.2.1 97 = .ok (.invokevirtual 45, 3) := by decide +kernel
theorem dX6_mostHands_100 : decode mX6_mostHands.2.1 100 = .ok (.ireturn, 1) := by decide +kernel
theorem dX6_fewestHands_0 : decode mX6_fewestHands.2.1 0 = .ok (.aload_n 0, 1) := by decide +kernel
theorem dX6_fewestHands_1 : decode mX6_fewestHands.2.1 1 = .ok (.iload_n 1, 1) := by decide +kernel
theorem dX6_fewestHands_2 : decode mX6_fewestHands.2.1 2 = .ok (.invokevirtual 82, 3) := by decide +kernel
theorem dX6_fewestHands_5 : decode mX6_fewestHands.2.1 5 = .ok (.ifCond .ne 10, 3) := by decide +kernel
theorem dX6_fewestHands_8 : decode mX6_fewestHands.2.1 8 = .ok (.aload_n 0, 1) := by decide +kernel
theorem dX6_fewestHands_9 : decode mX6_fewestHands.2.1 9 = .ok (.ldc 43, 2) := by decide +kernel
theorem dX6_fewestHands_11 : decode mX6_fewestHands.2.1 11 = .ok (.invokevirtual 45, 3) := by decide +kernel
theorem dX6_fewestHands_14 : decode mX6_fewestHands.2.1 14 = .ok (.ireturn, 1) := by decide +kernel
theorem dX6_fewestHands_15 : decode mX6_fewestHands.2.1 15 = .ok (.bipush 6, 2) := by decide +kernel
theorem dX6_fewestHands_17 : decode mX6_fewestHands.2.1 17 = .ok (.iconst 5, 1) := by decide +kernel
theorem dX6_fewestHands_18 : decode mX6_fewestHands.2.1 18 = .ok (.iload_n 1, 1) := by decide +kernel
theorem dX6_fewestHands_19 : decode mX6_fewestHands.2.1 19 = .ok (.imul, 1) := by decide +kernel
theorem dX6_fewestHands_20 : decode mX6_fewestHands.2.1 20 = .ok (.iadd, 1) := by decide +kernel
theorem dX6_fewestHands_21 : decode mX6_fewestHands.2.1 21 = .ok (.iconst 2, 1) := by decide +kernel
theorem dX6_fewestHands_22 : decode mX6_fewestHands.2.1 22 = .ok (.iadd, 1) := by decide +kernel
theorem dX6_fewestHands_23 : decode mX6_fewestHands.2.1 23 = .ok (.istore_n 2, 1) := by decide +kernel
theorem dX6_fewestHands_24 : decode mX6_fewestHands.2.1 24 = .ok (.aload_n 0, 1) := by decide +kernel
theorem dX6_fewestHands_25 : decode mX6_fewestHands.2.1 25 = .ok (.getfield 7, 3) := by decide +kernel
theorem dX6_fewestHands_28 : decode mX6_fewestHands.2.1 28 = .ok (.iload_n 2, 1) := by decide +kernel
theorem dX6_fewestHands_29 : decode mX6_fewestHands.2.1 29 = .ok (.iaload, 1) := by decide +kernel
theorem dX6_fewestHands_30 : decode mX6_fewestHands.2.1 30 = .ok (.istore_n 3, 1) := by decide +kernel
theorem dX6_fewestHands_31 : decode mX6_fewestHands.2.1 31 = .ok (.iconst (-1), 1) := by decide +kernel
theorem dX6_fewestHands_32 : decode mX6_fewestHands.2.1 32 = .ok (.istore 4, 2) := by decide +kernel
theorem dX6_fewestHands_34 : decode mX6_fewestHands.2.1 34 = .ok (.iconst 1, 1) := by decide +kernel
theorem dX6_fewestHands_35 : decode mX6_fewestHands.2.1 35 = .ok (.istore 5, 2) := by decide +kernel
theorem dX6_fewestHands_37 : decode mX6_fewestHands.2.1 37 = .ok (.iload 5, 2) := by decide +kernel
theorem dX6_fewestHands_39 : decode mX6_fewestHands.2.1 39 = .ok (.bipush 20, 2) := by decide +kernel
theorem dX6_fewestHands_41 : decode mX6_fewestHands.2.1 41 = .ok (.if_icmp .gt 46, 3) := by decide +kernel
theorem dX6_fewestHands_44 : decode mX6_fewestHands.2.1 44 = .ok (.iload 4, 2) := by decide +kernel
theorem dX6_fewestHands_46 : decode mX6_fewestHands.2.1 46 = .ok (.ifCond .ge 41, 3) := by decide +kernel
theorem dX6_fewestHands_49 : decode mX6_fewestHands.2.1 49 = .ok (.aload_n 0, 1) := by decide +kernel
theorem dX6_fewestHands_50 : decode mX6_fewestHands.2.1 50 = .ok (.getfield 7, 3) := by decide +kernel
theorem dX6_fewestHands_53 : decode mX6_fewestHands.2.1 53 = .ok (.iload_n 2, 1) := by decide +kernel
theorem dX6_fewestHands_54 : decode mX6_fewestHands.2.1 54 = .ok (.iload 5, 2) := by decide +kernel
theorem dX6_fewestHands_56 : decode mX6_fewestHands.2.1 56 = .ok (.iastore, 1) := by decide +kernel
theorem dX6_fewestHands_57 : decode mX6_fewestHands.2.1 57 = .ok (.aload_n 0, 1) := by decide +kernel
theorem dX6_fewestHands_58 : decode mX6_fewestHands.2.1 58 = .ok (.invokevirtual 109, 3) := by decide +kernel
theorem dX6_fewestHands_61 : decode mX6_fewestHands.2.1 61 = .ok (.aload_n 0, 1) := by decide +kernel
theorem dX6_fewestHands_62 : decode mX6_fewestHands.2.1 62 = .ok (.invokevirtual 122, 3) := by decide +kernel
theorem dX6_fewestHands_65 : decode mX6_fewestHands.2.1 65 = .ok (.iload_n 1, 1) := by decide +kernel
theorem dX6_fewestHands_66 : decode mX6_fewestHands.2.1 66 = .ok (.ishr, 1) := by decide +kernel
theorem dX6_fewestHands_67 : decode mX6_fewestHands.2.1 67 = .ok (.iconst 1, 1) := by decide +kernel
theorem dX6_fewestHands_68 : decode mX6_fewestHands.2.1 68 = .ok (.iand, 1) := by decide +kernel
theorem dX6_fewestHands_69 : decode mX6_fewestHands.2.1 69 = .ok (.iconst 1, 1) := by decide +kernel
theorem dX6_fewestHands_70 : decode mX6_fewestHands.2.1 70 = .ok (.if_icmp .ne 8, 3) := by decide +kernel
theorem dX6_fewestHands_73 : decode mX6_fewestHands.2.1 73 = .ok (.iload 5, 2) := by decide +kernel
theorem dX6_fewestHands_75 : decode mX6_fewestHands.2.1 75 = .ok (.goto 4, 3) := by decide +kernel
theorem dX6_fewestHands_78 : decode mX6_fewestHands.2.1 78 = .ok (.iconst (-1), 1) := by decide +kernel
theorem dX6_fewestHands_79 : decode mX6_fewestHands.2.1 79 = .ok (.istore 4, 2) := by decide +kernel
theorem dX6_fewestHands_81 : decode mX6_fewestHands.2.1 81 = .ok (.iinc 5 1, 3) := by decide +kernel
theorem dX6_fewestHands_84 : decode mX6_fewestHands.2.1 84 = .ok (.goto (-47), 3) := by decide +kernel
theorem dX6_fewestHands_87 : decode mX6_fewestHands.2.1 87 = .ok (.aload_n 0, 1) := by decide +kernel
theorem dX6_fewestHands_88 : decode mX6_fewestHands.2.1 88 = .ok (.getfield 7, 3) := by decide +kernel
theorem dX6_fewestHands_91 : decode mX6_fewestHands.2.1 91 = .ok (.iload_n 2, 1) := by decide +kernel
theorem dX6_fewestHands_92 : decode mX6_fewestHands.2.1 92 = .ok (.iload_n 3, 1) := by decide +kernel
theorem dX6_fewestHands_93 : decode mX6_fewestHands.2.1 93 = .ok (.iastore, 1) := by decide +kernel
theorem dX6_fewestHands_94 : decode mX6_fewestHands.2.1 94 = .ok (.aload_n 0, 1) := by decide +kernel
theorem dX6_fewestHands_95 : decode mX6_fewestHands.2.1 95 = .ok (.iload 4, 2) := by decide +kernel
theorem dX6_fewestHands_97 : decode mX6_fewestHands.2.1 97 = .ok (.invokevirtual 174, 3) := by decide +kernel
theorem dX6_fewestHands_100 : decode mX6_fewestHands.2.1 100 = .ok (.ireturn, 1) := by decide +kernel
theorem dX6_lend_0 : decode mX6_lend.2.1 0 = .ok (.aload_n 0, 1) := by decide +kernel
theorem dX6_lend_1 : decode mX6_lend.2.1 1 = .ok (.iload_n 1, 1) := by decide +kernel
theorem dX6_lend_2 : decode mX6_lend.2.1 2 = .ok (.invokevirtual 82, 3) := by decide +kernel
theorem dX6_lend_5 : decode mX6_lend.2.1 5 = .ok (.ifCond .ne 10, 3) := by decide +kernel
theorem dX6_lend_8 : decode mX6_lend.2.1 8 = .ok (.aload_n 0, 1) := by decide +kernel
theorem dX6_lend_9 : decode mX6_lend.2.1 9 = .ok (.ldc 43, 2) := by decide +kernel
theorem dX6_lend_11 : decode mX6_lend.2.1 11 = .ok (.invokevirtual 45, 3) := by decide +kernel
theorem dX6_lend_14 : decode mX6_lend.2.1 14 = .ok (.ireturn, 1) := by decide +kernel
theorem dX6_lend_15 : decode mX6_lend.2.1 15 = .ok (.iconst (-1), 1) := by decide +kernel
theorem dX6_lend_16 : decode mX6_lend.2.1 16 = .ok (.istore_n 2, 1) := by decide +kernel
theorem dX6_lend_17 : decode mX6_lend.2.1 17 = .ok (.iconst 0, 1) := by decide +kernel
theorem dX6_lend_18 : decode mX6_lend.2.1 18 = .ok (.istore_n 3, 1) := by decide +kernel
theorem dX6_lend_19 : decode mX6_lend.2.1 19 = .ok (.iload_n 3, 1) := by decide +kernel
theorem dX6_lend_20 : decode mX6_lend.2.1 20 = .ok (.bipush 64, 2) := by decide +kernel
theorem dX6_lend_22 : decode mX6_lend.2.1 22 = .ok (.if_icmp .ge 159, 3) := by decide +kernel
theorem dX6_lend_25 : decode mX6_lend.2.1 25 = .ok (.iload_n 2, 1) := by decide +kernel
theorem dX6_lend_26 : decode mX6_lend.2.1 26 = .ok (.ifCond .ge 155, 3) := by decide +kernel
theorem dX6_lend_29 : decode mX6_lend.2.1 29 = .ok (.iload_n 3, 1) := by decide +kernel
theorem dX6_lend_30 : decode mX6_lend.2.1 30 = .ok (.bipush 8, 2) := by decide +kernel
theorem dX6_lend_32 : decode mX6_lend.2.1 32 = .ok (.idiv, 1) := by decide +kernel
theorem dX6_lend_33 : decode mX6_lend.2.1 33 = .ok (.istore 4, 2) := by decide +kernel
theorem dX6_lend_35 : decode mX6_lend.2.1 35 = .ok (.iload_n 3, 1) := by decide +kernel
theorem dX6_lend_36 : decode mX6_lend.2.1 36 = .ok (.bipush 8, 2) := by decide +kernel
theorem dX6_lend_38 : decode mX6_lend.2.1 38 = .ok (.irem, 1) := by decide +kernel
theorem dX6_lend_39 : decode mX6_lend.2.1 39 = .ok (.istore 5, 2) := by decide +kernel
theorem dX6_lend_41 : decode mX6_lend.2.1 41 = .ok (.iload 4, 2) := by decide +kernel
theorem dX6_lend_43 : decode mX6_lend.2.1 43 = .ok (.iload 5, 2) := by decide +kernel
theorem dX6_lend_45 : decode mX6_lend.2.1 45 = .ok (.if_icmp .eq 130, 3) := by decide +kernel
theorem dX6_lend_48 : decode mX6_lend.2.1 48 = .ok (.aload_n 0, 1) := by decide +kernel
theorem dX6_lend_49 : decode mX6_lend.2.1 49 = .ok (.iload 4, 2) := by decide +kernel
theorem dX6_lend_51 : decode mX6_lend.2.1 51 = .ok (.invokevirtual 82, 3) := by decide +kernel
theorem dX6_lend_54 : decode mX6_lend.2.1 54 = .ok (.ifCond .eq 121, 3) := by decide +kernel
theorem dX6_lend_57 : decode mX6_lend.2.1 57 = .ok (.aload_n 0, 1) := by decide +kernel
theorem dX6_lend_58 : decode mX6_lend.2.1 58 = .ok (.iload 5, 2) := by decide +kernel
theorem dX6_lend_60 : decode mX6_lend.2.1 60 = .ok (.invokevirtual 82, 3) := by decide +kernel
theorem dX6_lend_63 : decode mX6_lend.2.1 63 = .ok (.ifCond .eq 112, 3) := by decide +kernel
theorem dX6_lend_66 : decode mX6_lend.2.1 66 = .ok (.aload_n 0, 1) := by decide +kernel
theorem dX6_lend_67 : decode mX6_lend.2.1 67 = .ok (.iload 4, 2) := by decide +kernel
theorem dX6_lend_69 : decode mX6_lend.2.1 69 = .ok (.iconst 2, 1) := by decide +kernel
theorem dX6_lend_70 : decode mX6_lend.2.1 70 = .ok (.invokevirtual 70, 3) := by decide +kernel
theorem dX6_lend_73 : decode mX6_lend.2.1 73 = .ok (.iconst 1, 1) := by decide +kernel
theorem dX6_lend_74 : decode mX6_lend.2.1 74 = .ok (.if_icmp .le 101, 3) := by decide +kernel
theorem dX6_lend_77 : decode mX6_lend.2.1 77 = .ok (.aload_n 0, 1) := by decide +kernel
theorem dX6_lend_78 : decode mX6_lend.2.1 78 = .ok (.iload 5, 2) := by decide +kernel
theorem dX6_lend_80 : decode mX6_lend.2.1 80 = .ok (.iconst 2, 1) := by decide +kernel
theorem dX6_lend_81 : decode mX6_lend.2.1 81 = .ok (.invokevirtual 70, 3) := by decide +kernel
theorem dX6_lend_84 : decode mX6_lend.2.1 84 = .ok (.bipush 20, 2) := by decide +kernel
theorem dX6_lend_86 : decode mX6_lend.2.1 86 = .ok (.if_icmp .ge 89, 3) := by decide +kernel
theorem dX6_lend_89 : decode mX6_lend.2.1 89 = .ok (.aload_n 0, 1) := by decide +kernel
theorem dX6_lend_90 : decode mX6_lend.2.1 90 = .ok (.getfield 7, 3) := by decide +kernel
theorem dX6_lend_93 : decode mX6_lend.2.1 93 = .ok (.bipush 6, 2) := by decide +kernel
theorem dX6_lend_95 : decode mX6_lend.2.1 95 = .ok (.iconst 5, 1) := by decide +kernel
theorem dX6_lend_96 : decode mX6_lend.2.1 96 = .ok (.iload 4, 2) := by decide +kernel
theorem dX6_lend_98 : decode mX6_lend.2.1 98 = .ok (.imul, 1) := by decide +kernel
theorem dX6_lend_99 : decode mX6_lend.2.1 99 = .ok (.iadd, 1) := by decide +kernel
theorem dX6_lend_100 : decode mX6_lend.2.1 100 = .ok (.iconst 2, 1) := by decide +kernel
theorem dX6_lend_101 : decode mX6_lend.2.1 101 = .ok (.iadd, 1) := by decide +kernel
theorem dX6_lend_102 : decode mX6_lend.2.1 102 = .ok (.dup2, 1) := by decide +kernel
theorem dX6_lend_103 : decode mX6_lend.2.1 103 = .ok (.iaload, 1) := by decide +kernel
theorem dX6_lend_104 : decode mX6_lend.2.1 104 = .ok (.iconst 1, 1) := by decide +kernel
theorem dX6_lend_105 : decode mX6_lend.2.1 105 = .ok (.isub, 1) := by decide +kernel
theorem dX6_lend_106 : decode mX6_lend.2.1 106 = .ok (.iastore, 1) := by decide +kernel
theorem dX6_lend_107 : decode mX6_lend.2.1 107 = .ok (.aload_n 0, 1) := by decide +kernel
theorem dX6_lend_108 : decode mX6_lend.2.1 108 = .ok (.getfield 7, 3) := by decide +kernel
theorem dX6_lend_111 : decode mX6_lend.2.1 111 = .ok (.bipush 6, 2) := by decide +kernel
theorem dX6_lend_113 : decode mX6_lend.2.1 113 = .ok (.iconst 5, 1) := by decide +kernel
theorem dX6_lend_114 : decode mX6_lend.2.1 114 = .ok (.iload 5, 2) := by decide +kernel
theorem dX6_lend_116 : decode mX6_lend.2.1 116 = .ok (.imul, 1) := by decide +kernel
theorem dX6_lend_117 : decode mX6_lend.2.1 117 = .ok (.iadd, 1) := by decide +kernel
theorem dX6_lend_118 : decode mX6_lend.2.1 118 = .ok (.iconst 2, 1) := by decide +kernel
theorem dX6_lend_119 : decode mX6_lend.2.1 119 = .ok (.iadd, 1) := by decide +kernel
theorem dX6_lend_120 : decode mX6_lend.2.1 120 = .ok (.dup2, 1) := by decide +kernel
theorem dX6_lend_121 : decode mX6_lend.2.1 121 = .ok (.iaload, 1) := by decide +kernel
theorem dX6_lend_122 : decode mX6_lend.2.1 122 = .ok (.iconst 1, 1) := by decide +kernel
theorem dX6_lend_123 : decode mX6_lend.2.1 123 = .ok (.iadd, 1) := by decide +kernel
theorem dX6_lend_124 : decode mX6_lend.2.1 124 = .ok (.iastore, 1) := by decide +kernel
theorem dX6_lend_125 : decode mX6_lend.2.1 125 = .ok (.aload_n 0, 1) := by decide +kernel
theorem dX6_lend_126 : decode mX6_lend.2.1 126 = .ok (.iload_n 1, 1) := by decide +kernel
theorem dX6_lend_127 : decode mX6_lend.2.1 127 = .ok (.invokevirtual 171, 3) := by decide +kernel
theorem dX6_lend_130 : decode mX6_lend.2.1 130 = .ok (.ifCond .eq 7, 3) := by decide +kernel
theorem dX6_lend_133 : decode mX6_lend.2.1 133 = .ok (.iload_n 3, 1) := by decide +kernel
theorem dX6_lend_134 : decode mX6_lend.2.1 134 = .ok (.goto 4, 3) := by decide +kernel
theorem dX6_lend_137 : decode mX6_lend.2.1 137 = .ok (.iconst (-1), 1) := by decide +kernel
theorem dX6_lend_138 : decode mX6_lend.2.1 138 = .ok (.istore_n 2, 1) := by decide +kernel
theorem dX6_lend_139 : decode mX6_lend.2.1 139 = .ok (.aload_n 0, 1) := by decide +kernel
theorem dX6_lend_140 : decode mX6_lend.2.1 140 = .ok (.getfield 7, 3) := by decide +kernel
theorem dX6_lend_143 : decode mX6_lend.2.1 143 = .ok (.bipush 6, 2) := by decide +kernel
theorem dX6_lend_145 : decode mX6_lend.2.1 145 = .ok (.iconst 5, 1) := by decide +kernel
theorem dX6_lend_146 : decode mX6_lend.2.1 146 = .ok (.iload 4, 2) := by decide +kernel
theorem dX6_lend_148 : decode mX6_lend.2.1 148 = .ok (.imul, 1) := by decide +kernel
theorem dX6_lend_149 : decode mX6_lend.2.1 149 = .ok (.iadd, 1) := by decide +kernel
theorem dX6_lend_150 : decode mX6_lend.2.1 150 = .ok (.iconst 2, 1) := by decide +kernel
theorem dX6_lend_151 : decode mX6_lend.2.1 151 = .ok (.iadd, 1) := by decide +kernel
theorem dX6_lend_152 : decode mX6_lend.2.1 152 = .ok (.dup2, 1) := by decide +kernel
theorem dX6_lend_153 : decode mX6_lend.2.1 153 = .ok (.iaload, 1) := by decide +kernel
theorem dX6_lend_154 : decode mX6_lend.2.1 154 = .ok (.iconst 1, 1) := by decide +kernel
theorem dX6_lend_155 : decode mX6_lend.2.1 155 = .ok (.iadd, 1) := by decide +kernel
theorem dX6_lend_156 : decode mX6_lend.2.1 156 = .ok (.iastore, 1) := by decide +kernel
theorem dX6_lend_157 : decode mX6_lend.2.1 157 = .ok (.aload_n 0, 1) := by decide +kernel
theorem dX6_lend_158 : decode mX6_lend.2.1 158 = .ok (.getfield 7, 3) := by decide +kernel
theorem dX6_lend_161 : decode mX6_lend.2.1 161 = .ok (.bipush 6, 2) := by decide +kernel
theorem dX6_lend_163 : decode mX6_lend.2.1 163 = .ok (.iconst 5, 1) := by decide +kernel
theorem dX6_lend_164 : decode mX6_lend.2.1 164 = .ok (.iload 5, 2) := by decide +kernel
theorem dX6_lend_166 : decode mX6_lend.2.1 166 = .ok (.imul, 1) := by decide +kernel
theorem dX6_lend_167 : decode mX6_lend.2.1 167 = .ok (.iadd, 1) := by decide +kernel
theorem dX6_lend_168 : decode mX6_lend.2.1 168 = .ok (.iconst 2, 1) := by decide +kernel
theorem dX6_lend_169 : decode mX6_lend.2.1 169 = .ok (.iadd, 1) := by decide +kernel
theorem dX6_lend_170 : decode mX6_lend.2.1 170 = .ok (.dup2, 1) := by decide +kernel
theorem dX6_lend_171 : decode mX6_lend.2.1 171 = .ok (.iaload, 1) := by decide +kernel
theorem dX6_lend_172 : decode mX6_lend.2.1 172 = .ok (.iconst 1, 1) := by decide +kernel
theorem dX6_lend_173 : decode mX6_lend.2.1 173 = .ok (.isub, 1) := by decide +kernel
theorem dX6_lend_174 : decode mX6_lend.2.1 174 = .ok (.iastore, 1) := by decide +kernel
theorem dX6_lend_175 : decode mX6_lend.2.1 175 = .ok (.iinc 3 1, 3) := by decide +kernel
theorem dX6_lend_178 : decode mX6_lend.2.1 178 = .ok (.goto (-159), 3) := by decide +kernel
theorem dX6_lend_181 : decode mX6_lend.2.1 181 = .ok (.aload_n 0, 1) := by decide +kernel
theorem dX6_lend_182 : decode mX6_lend.2.1 182 = .ok (.iload_n 2, 1) := by decide +kernel
theorem dX6_lend_183 : decode mX6_lend.2.1 183 = .ok (.invokevirtual 174, 3) := by decide +kernel
theorem dX6_lend_186 : decode mX6_lend.2.1 186 = .ok (.ireturn, 1) := by decide +kernel
theorem dX6_kinds_0 : decode mX6_kinds.2.1 0 = .ok (.aload_n 0, 1) := by decide +kernel
theorem dX6_kinds_1 : decode mX6_kinds.2.1 1 = .ok (.iload_n 1, 1) := by decide +kernel
theorem dX6_kinds_2 : decode mX6_kinds.2.1 2 = .ok (.invokevirtual 82, 3) := by decide +kernel
theorem dX6_kinds_5 : decode mX6_kinds.2.1 5 = .ok (.ifCond .ne 10, 3) := by decide +kernel
theorem dX6_kinds_8 : decode mX6_kinds.2.1 8 = .ok (.aload_n 0, 1) := by decide +kernel
theorem dX6_kinds_9 : decode mX6_kinds.2.1 9 = .ok (.ldc 43, 2) := by decide +kernel
theorem dX6_kinds_11 : decode mX6_kinds.2.1 11 = .ok (.invokevirtual 45, 3) := by decide +kernel
theorem dX6_kinds_14 : decode mX6_kinds.2.1 14 = .ok (.ireturn, 1) := by decide +kernel
theorem dX6_kinds_15 : decode mX6_kinds.2.1 15 = .ok (.bipush 6, 2) := by decide +kernel
theorem dX6_kinds_17 : decode mX6_kinds.2.1 17 = .ok (.iconst 5, 1) := by decide +kernel
theorem dX6_kinds_18 : decode mX6_kinds.2.1 18 = .ok (.iload_n 1, 1) := by decide +kernel
theorem dX6_kinds_19 : decode mX6_kinds.2.1 19 = .ok (.imul, 1) := by decide +kernel
theorem dX6_kinds_20 : decode mX6_kinds.2.1 20 = .ok (.iadd, 1) := by decide +kernel
theorem dX6_kinds_21 : decode mX6_kinds.2.1 21 = .ok (.istore_n 2, 1) := by decide +kernel
theorem dX6_kinds_22 : decode mX6_kinds.2.1 22 = .ok (.aload_n 0, 1) := by decide +kernel
theorem dX6_kinds_23 : decode mX6_kinds.2.1 23 = .ok (.getfield 7, 3) := by decide +kernel
theorem dX6_kinds_26 : decode mX6_kinds.2.1 26 = .ok (.iload_n 2, 1) := by decide +kernel
theorem dX6_kinds_27 : decode mX6_kinds.2.1 27 = .ok (.iaload, 1) := by decide +kernel
theorem dX6_kinds_28 : decode mX6_kinds.2.1 28 = .ok (.istore_n 3, 1) := by decide +kernel
theorem dX6_kinds_29 : decode mX6_kinds.2.1 29 = .ok (.iconst 0, 1) := by decide +kernel
theorem dX6_kinds_30 : decode mX6_kinds.2.1 30 = .ok (.istore 4, 2) := by decide +kernel
theorem dX6_kinds_32 : decode mX6_kinds.2.1 32 = .ok (.iconst 0, 1) := by decide +kernel
theorem dX6_kinds_33 : decode mX6_kinds.2.1 33 = .ok (.istore 5, 2) := by decide +kernel
theorem dX6_kinds_35 : decode mX6_kinds.2.1 35 = .ok (.iload 5, 2) := by decide +kernel
theorem dX6_kinds_37 : decode mX6_kinds.2.1 37 = .ok (.bipush 6, 2) := by decide +kernel
theorem dX6_kinds_39 : decode mX6_kinds.2.1 39 = .ok (.if_icmp .gt 38, 3) := by decide +kernel
theorem dX6_kinds_42 : decode mX6_kinds.2.1 42 = .ok (.aload_n 0, 1) := by decide +kernel
theorem dX6_kinds_43 : decode mX6_kinds.2.1 43 = .ok (.getfield 7, 3) := by decide +kernel
theorem dX6_kinds_46 : decode mX6_kinds.2.1 46 = .ok (.iload_n 2, 1) := by decide +kernel
theorem dX6_kinds_47 : decode mX6_kinds.2.1 47 = .ok (.iload 5, 2) := by decide +kernel
theorem dX6_kinds_49 : decode mX6_kinds.2.1 49 = .ok (.iastore, 1) := by decide +kernel
theorem dX6_kinds_50 : decode mX6_kinds.2.1 50 = .ok (.iload 4, 2) := by decide +kernel
theorem dX6_kinds_52 : decode mX6_kinds.2.1 52 = .ok (.aload_n 0, 1) := by decide +kernel
theorem dX6_kinds_53 : decode mX6_kinds.2.1 53 = .ok (.iload_n 1, 1) := by decide +kernel
theorem dX6_kinds_54 : decode mX6_kinds.2.1 54 = .ok (.invokevirtual 171, 3) := by decide +kernel
theorem dX6_kinds_57 : decode mX6_kinds.2.1 57 = .ok (.ifCond .eq 10, 3) := by decide +kernel
theorem dX6_kinds_60 : decode mX6_kinds.2.1 60 = .ok (.iconst 1, 1) := by decide +kernel
theorem dX6_kinds_61 : decode mX6_kinds.2.1 61 = .ok (.iload 5, 2) := by decide +kernel
theorem dX6_kinds_63 : decode mX6_kinds.2.1 63 = .ok (.ishl, 1) := by decide +kernel
theorem dX6_kinds_64 : decode mX6_kinds.2.1 64 = .ok (.goto 4, 3) := by decide +kernel
theorem dX6_kinds_67 : decode mX6_kinds.2.1 67 = .ok (.iconst 0, 1) := by decide +kernel
theorem dX6_kinds_68 : decode mX6_kinds.2.1 68 = .ok (.ior, 1) := by decide +kernel
theorem dX6_kinds_69 : decode mX6_kinds.2.1 69 = .ok (.istore 4, 2) := by decide +kernel
theorem dX6_kinds_71 : decode mX6_kinds.2.1 71 = .ok (.iinc 5 1, 3) := by decide +kernel
theorem dX6_kinds_74 : decode mX6_kinds.2.1 74 = .ok (.goto (-39), 3) := by decide +kernel
theorem dX6_kinds_77 : decode mX6_kinds.2.1 77 = .ok (.aload_n 0, 1) := by decide +kernel
theorem dX6_kinds_78 : decode mX6_kinds.2.1 78 = .ok (.getfield 7, 3) := by decide +kernel
theorem dX6_kinds_81 : decode mX6_kinds.2.1 81 = .ok (.iload_n 2, 1) := by decide +kernel
theorem dX6_kinds_82 : decode mX6_kinds.2.1 82 = .ok (.iload_n 3, 1) := by decide +kernel
theorem dX6_kinds_83 : decode mX6_kinds.2.1 83 = .ok (.iastore, 1) := by decide +kernel
theorem dX6_kinds_84 : decode mX6_kinds.2.1 84 = .ok (.iload 4, 2) := by decide +kernel
theorem dX6_kinds_86 : decode mX6_kinds.2.1 86 = .ok (.ireturn, 1) := by decide +kernel
theorem dX6_wetFor_0 : decode mX6_wetFor.2.1 0 = .ok (.aload_n 0, 1) := by decide +kernel
theorem dX6_wetFor_1 : decode mX6_wetFor.2.1 1 = .ok (.iload_n 1, 1) := by decide +kernel
theorem dX6_wetFor_2 : decode mX6_wetFor.2.1 2 = .ok (.invokevirtual 82, 3) := by decide +kernel
theorem dX6_wetFor_5 : decode mX6_wetFor.2.1 5 = .ok (.ifCond .ne 10, 3) := by decide +kernel
theorem dX6_wetFor_8 : decode mX6_wetFor.2.1 8 = .ok (.aload_n 0, 1) := by decide +kernel
theorem dX6_wetFor_9 : decode mX6_wetFor.2.1 9 = .ok (.ldc 43, 2) := by decide +kernel
theorem dX6_wetFor_11 : decode mX6_wetFor.2.1 11 = .ok (.invokevirtual 45, 3) := by decide +kernel
theorem dX6_wetFor_14 : decode mX6_wetFor.2.1 14 = .ok (.ireturn, 1) := by decide +kernel
theorem dX6_wetFor_15 : decode mX6_wetFor.2.1 15 = .ok (.aload_n 0, 1) := by decide +kernel
theorem dX6_wetFor_16 : decode mX6_wetFor.2.1 16 = .ok (.getfield 7, 3) := by decide +kernel
theorem dX6_wetFor_19 : decode mX6_wetFor.2.1 19 = .ok (.iconst 3, 1) := by decide +kernel
theorem dX6_wetFor_20 : decode mX6_wetFor.2.1 20 = .ok (.iaload, 1) := by decide +kernel
theorem dX6_wetFor_21 : decode mX6_wetFor.2.1 21 = .ok (.istore_n 2, 1) := by decide +kernel
theorem dX6_wetFor_22 : decode mX6_wetFor.2.1 22 = .ok (.aload_n 0, 1) := by decide +kernel
theorem dX6_wetFor_23 : decode mX6_wetFor.2.1 23 = .ok (.getfield 7, 3) := by decide +kernel
theorem dX6_wetFor_26 : decode mX6_wetFor.2.1 26 = .ok (.iconst 3, 1) := by decide +kernel
theorem dX6_wetFor_27 : decode mX6_wetFor.2.1 27 = .ok (.iconst 0, 1) := by decide +kernel
theorem dX6_wetFor_28 : decode mX6_wetFor.2.1 28 = .ok (.iastore, 1) := by decide +kernel
theorem dX6_wetFor_29 : decode mX6_wetFor.2.1 29 = .ok (.aload_n 0, 1) := by decide +kernel
theorem dX6_wetFor_30 : decode mX6_wetFor.2.1 30 = .ok (.getfield 7, 3) := by decide +kernel
theorem dX6_wetFor_33 : decode mX6_wetFor.2.1 33 = .ok (.iconst 3, 1) := by decide +kernel
theorem dX6_wetFor_34 : decode mX6_wetFor.2.1 34 = .ok (.iaload, 1) := by decide +kernel
theorem dX6_wetFor_35 : decode mX6_wetFor.2.1 35 = .ok (.bipush 99, 2) := by decide +kernel
theorem dX6_wetFor_37 : decode mX6_wetFor.2.1 37 = .ok (.if_icmp .gt 24, 3) := by decide +kernel
theorem dX6_wetFor_40 : decode mX6_wetFor.2.1 40 = .ok (.aload_n 0, 1) := by decide +kernel
theorem dX6_wetFor_41 : decode mX6_wetFor.2.1 41 = .ok (.iload_n 1, 1) := by decide +kernel
theorem dX6_wetFor_42 : decode mX6_wetFor.2.1 42 = .ok (.invokevirtual 171, 3) := by decide +kernel
theorem dX6_wetFor_45 : decode mX6_wetFor.2.1 45 = .ok (.ifCond .ne 16, 3) := by decide +kernel
theorem dX6_wetFor_48 : decode mX6_wetFor.2.1 48 = .ok (.aload_n 0, 1) := by decide +kernel
theorem dX6_wetFor_49 : decode mX6_wetFor.2.1 49 = .ok (.getfield 7, 3) := by decide +kernel
theorem dX6_wetFor_52 : decode mX6_wetFor.2.1 52 = .ok (.iconst 3, 1) := by decide +kernel
theorem dX6_wetFor_53 : decode mX6_wetFor.2.1 53 = .ok (.dup2, 1) := by decide +kernel
theorem dX6_wetFor_54 : decode mX6_wetFor.2.1 54 = .ok (.iaload, 1) := by decide +kernel
theorem dX6_wetFor_55 : decode mX6_wetFor.2.1 55 = .ok (.iconst 1, 1) := by decide +kernel
theorem dX6_wetFor_56 : decode mX6_wetFor.2.1 56 = .ok (.iadd, 1) := by decide +kernel
theorem dX6_wetFor_57 : decode mX6_wetFor.2.1 57 = .ok (.iastore, 1) := by decide +kernel
theorem dX6_wetFor_58 : decode mX6_wetFor.2.1 58 = .ok (.goto (-29), 3) := by decide +kernel
theorem dX6_wetFor_61 : decode mX6_wetFor.2.1 61 = .ok (.aload_n 0, 1) := by decide +kernel
theorem dX6_wetFor_62 : decode mX6_wetFor.2.1 62 = .ok (.getfield 7, 3) := by decide +kernel
theorem dX6_wetFor_65 : decode mX6_wetFor.2.1 65 = .ok (.iconst 3, 1) := by decide +kernel
theorem dX6_wetFor_66 : decode mX6_wetFor.2.1 66 = .ok (.iaload, 1) := by decide +kernel
theorem dX6_wetFor_67 : decode mX6_wetFor.2.1 67 = .ok (.istore_n 3, 1) := by decide +kernel
theorem dX6_wetFor_68 : decode mX6_wetFor.2.1 68 = .ok (.aload_n 0, 1) := by decide +kernel
theorem dX6_wetFor_69 : decode mX6_wetFor.2.1 69 = .ok (.getfield 7, 3) := by decide +kernel
theorem dX6_wetFor_72 : decode mX6_wetFor.2.1 72 = .ok (.iconst 3, 1) := by decide +kernel
theorem dX6_wetFor_73 : decode mX6_wetFor.2.1 73 = .ok (.iload_n 2, 1) := by decide +kernel
theorem dX6_wetFor_74 : decode mX6_wetFor.2.1 74 = .ok (.iastore, 1) := by decide +kernel
theorem dX6_wetFor_75 : decode mX6_wetFor.2.1 75 = .ok (.iload_n 3, 1) := by decide +kernel
theorem dX6_wetFor_76 : decode mX6_wetFor.2.1 76 = .ok (.bipush 99, 2) := by decide +kernel
theorem dX6_wetFor_78 : decode mX6_wetFor.2.1 78 = .ok (.if_icmp .gt 7, 3) := by decide +kernel
theorem dX6_wetFor_81 : decode mX6_wetFor.2.1 81 = .ok (.iload_n 3, 1) := by decide +kernel
theorem dX6_wetFor_82 : decode mX6_wetFor.2.1 82 = .ok (.goto 9, 3) := by decide +kernel
theorem dX6_wetFor_85 : decode mX6_wetFor.2.1 85 = .ok (.aload_n 0, 1) := by decide +kernel
theorem dX6_wetFor_86 : decode mX6_wetFor.2.1 86 = .ok (.ldc 44, 2) := by decide +kernel
theorem dX6_wetFor_88 : decode mX6_wetFor.2.1 88 = .ok (.invokevirtual 45, 3) := by decide +kernel
theorem dX6_wetFor_91 : decode mX6_wetFor.2.1 91 = .ok (.ireturn, 1) := by decide +kernel
theorem dX6_tell_0 : decode mX6_tell.2.1 0 = .ok (.iload_n 1, 1) := by decide +kernel
theorem dX6_tell_1 : decode mX6_tell.2.1 1 = .ok (.invokestatic 136, 3) := by decide +kernel
theorem dX6_tell_4 : decode mX6_tell.2.1 4 = .ok (.ifCond .eq 17, 3) := by decide +kernel
theorem dX6_tell_7 : decode mX6_tell.2.1 7 = .ok (.iload_n 2, 1) := by decide +kernel
theorem dX6_tell_8 : decode mX6_tell.2.1 8 = .ok (.i2l, 1) := by decide +kernel
theorem dX6_tell_9 : decode mX6_tell.2.1 9 = .ok (.ldc2_w 96, 3) := by decide +kernel
theorem dX6_tell_12 : decode mX6_tell.2.1 12 = .ok (.ldc2_w 98, 3) := by decide +kernel
theorem dX6_tell_15 : decode mX6_tell.2.1 15 = .ok (.invokestatic 51, 3) := by decide +kernel
theorem dX6_tell_18 : decode mX6_tell.2.1 18 = .ok (.ifCond .ne 10, 3) := by decide +kernel
theorem dX6_tell_21 : decode mX6_tell.2.1 21 = .ok (.aload_n 0, 1) := by decide +kernel
theorem dX6_tell_22 : decode mX6_tell.2.1 22 = .ok (.ldc 43, 2) := by decide +kernel
theorem dX6_tell_24 : decode mX6_tell.2.1 24 = .ok (.invokevirtual 45, 3) := by decide +kernel
theorem dX6_tell_27 : decode mX6_tell.2.1 27 = .ok (.ireturn, 1) := by decide +kernel
theorem dX6_tell_28 : decode mX6_tell.2.1 28 = .ok (.aload_n 0, 1) := by decide +kernel
theorem dX6_tell_29 : decode mX6_tell.2.1 29 = .ok (.invokevirtual 119, 3) := by decide +kernel
theorem dX6_tell_32 : decode mX6_tell.2.1 32 = .ok (.istore_n 3, 1) := by decide +kernel
theorem dX6_tell_33 : decode mX6_tell.2.1 33 = .ok (.iconst (-1), 1) := by decide +kernel
theorem dX6_tell_34 : decode mX6_tell.2.1 34 = .ok (.istore 4, 2) := by decide +kernel
theorem dX6_tell_36 : decode mX6_tell.2.1 36 = .ok (.iconst 0, 1) := by decide +kernel
theorem dX6_tell_37 : decode mX6_tell.2.1 37 = .ok (.istore 5, 2) := by decide +kernel
theorem dX6_tell_39 : decode mX6_tell.2.1 39 = .ok (.iload 5, 2) := by decide +kernel
theorem dX6_tell_41 : decode mX6_tell.2.1 41 = .ok (.iconst 1, 1) := by decide +kernel
theorem dX6_tell_42 : decode mX6_tell.2.1 42 = .ok (.aload_n 0, 1) := by decide +kernel
theorem dX6_tell_43 : decode mX6_tell.2.1 43 = .ok (.getfield 7, 3) := by decide +kernel
theorem dX6_tell_46 : decode mX6_tell.2.1 46 = .ok (.iconst 0, 1) := by decide +kernel
theorem dX6_tell_47 : decode mX6_tell.2.1 47 = .ok (.iaload, 1) := by decide +kernel
theorem dX6_tell_48 : decode mX6_tell.2.1 48 = .ok (.ishl, 1) := by decide +kernel
theorem dX6_tell_49 : decode mX6_tell.2.1 49 = .ok (.if_icmp .ge 123, 3) := by decide +kernel
theorem dX6_tell_52 : decode mX6_tell.2.1 52 = .ok (.aload_n 0, 1) := by decide +kernel
theorem dX6_tell_53 : decode mX6_tell.2.1 53 = .ok (.getfield 7, 3) := by decide +kernel
theorem dX6_tell_56 : decode mX6_tell.2.1 56 = .ok (.aload_n 0, 1) := by decide +kernel
theorem dX6_tell_57 : decode mX6_tell.2.1 57 = .ok (.getfield 19, 3) := by decide +kernel
theorem dX6_tell_60 : decode mX6_tell.2.1 60 = .ok (.invokestatic 162, 3) := by decide +kernel
theorem dX6_tell_63 : decode mX6_tell.2.1 63 = .ok (.iconst 0, 1) := by decide +kernel
theorem dX6_tell_64 : decode mX6_tell.2.1 64 = .ok (.istore 6, 2) := by decide +kernel
theorem dX6_tell_66 : decode mX6_tell.2.1 66 = .ok (.iload 6, 2) := by decide +kernel
theorem dX6_tell_68 : decode mX6_tell.2.1 68 = .ok (.aload_n 0, 1) := by decide +kernel
theorem dX6_tell_69 : decode mX6_tell.2.1 69 = .ok (.getfield 7, 3) := by decide +kernel
theorem dX6_tell_72 : decode mX6_tell.2.1 72 = .ok (.iconst 0, 1) := by decide +kernel
theorem dX6_tell_73 : decode mX6_tell.2.1 73 = .ok (.iaload, 1) := by decide +kernel
theorem dX6_tell_74 : decode mX6_tell.2.1 74 = .ok (.if_icmp .ge 45, 3) := by decide +kernel
theorem dX6_tell_77 : decode mX6_tell.2.1 77 = .ok (.aload_n 0, 1) := by decide +kernel
theorem dX6_tell_78 : decode mX6_tell.2.1 78 = .ok (.getfield 7, 3) := by decide +kernel
theorem dX6_tell_81 : decode mX6_tell.2.1 81 = .ok (.bipush 6, 2) := by decide +kernel
theorem dX6_tell_83 : decode mX6_tell.2.1 83 = .ok (.iconst 5, 1) := by decide +kernel
theorem dX6_tell_84 : decode mX6_tell.2.1 84 = .ok (.iload 6, 2) := by decide +kernel
theorem dX6_tell_86 : decode mX6_tell.2.1 86 = .ok (.imul, 1) := by decide +kernel
theorem dX6_tell_87 : decode mX6_tell.2.1 87 = .ok (.iadd, 1) := by decide +kernel
theorem dX6_tell_88 : decode mX6_tell.2.1 88 = .ok (.iconst 3, 1) := by decide +kernel
theorem dX6_tell_89 : decode mX6_tell.2.1 89 = .ok (.iadd, 1) := by decide +kernel
theorem dX6_tell_90 : decode mX6_tell.2.1 90 = .ok (.iload 5, 2) := by decide +kernel
theorem dX6_tell_92 : decode mX6_tell.2.1 92 = .ok (.iload 6, 2) := by decide +kernel
theorem dX6_tell_94 : decode mX6_tell.2.1 94 = .ok (.ishr, 1) := by decide +kernel
theorem dX6_tell_95 : decode mX6_tell.2.1 95 = .ok (.iconst 1, 1) := by decide +kernel
theorem dX6_tell_96 : decode mX6_tell.2.1 96 = .ok (.iand, 1) := by decide +kernel
theorem dX6_tell_97 : decode mX6_tell.2.1 97 = .ok (.iconst 1, 1) := by decide +kernel
theorem dX6_tell_98 : decode mX6_tell.2.1 98 = .ok (.if_icmp .ne 7, 3) := by decide +kernel
theorem dX6_tell_101 : decode mX6_tell.2.1 101 = .ok (.iload_n 2, 1) := by decide +kernel
theorem dX6_tell_102 : decode mX6_tell.2.1 102 = .ok (.goto 10, 3) := by decide +kernel
theorem dX6_tell_105 : decode mX6_tell.2.1 105 = .ok (.aload_n 0, 1) := by decide +kernel
theorem dX6_tell_106 : decode mX6_tell.2.1 106 = .ok (.iload 6, 2) := by decide +kernel
theorem dX6_tell_108 : decode mX6_tell.2.1 108 = .ok (.iconst 3, 1) := by decide +kernel
theorem dX6_tell_109 : decode mX6_tell.2.1 109 = .ok (.invokevirtual 70, 3) := by decide +kernel
theorem dX6_tell_112 : decode mX6_tell.2.1 112 = .ok (.iastore, 1) := by decide +kernel
theorem dX6_tell_113 : decode mX6_tell.2.1 113 = .ok (.iinc 6 1, 3) := by decide +kernel
theorem dX6_tell_116 : decode mX6_tell.2.1 116 = .ok (.goto (-50), 3) := by decide +kernel
theorem dX6_tell_119 : decode mX6_tell.2.1 119 = .ok (.iload 4, 2) := by decide +kernel
theorem dX6_tell_121 : decode mX6_tell.2.1 121 = .ok (.ifCond .lt 16, 3) := by decide +kernel
theorem dX6_tell_124 : decode mX6_tell.2.1 124 = .ok (.iload 5, 2) := by decide +kernel
theorem dX6_tell_126 : decode mX6_tell.2.1 126 = .ok (.invokestatic 168, 3) := by decide +kernel
theorem dX6_tell_129 : decode mX6_tell.2.1 129 = .ok (.iload 4, 2) := by decide +kernel
theorem dX6_tell_131 : decode mX6_tell.2.1 131 = .ok (.invokestatic 168, 3) := by decide +kernel
theorem dX6_tell_134 : decode mX6_tell.2.1 134 = .ok (.if_icmp .ge 17, 3) := by decide +kernel
theorem dX6_tell_137 : decode mX6_tell.2.1 137 = .ok (.aload_n 0, 1) := by decide +kernel
theorem dX6_tell_138 : decode mX6_tell.2.1 138 = .ok (.iload_n 3, 1) := by decide +kernel
theorem dX6_tell_139 : decode mX6_tell.2.1 139 = .ok (.invokevirtual 128, 3) := by decide +kernel
theorem dX6_tell_142 : decode mX6_tell.2.1 142 = .ok (.iload_n 1, 1) := by decide +kernel
theorem dX6_tell_143 : decode mX6_tell.2.1 143 = .ok (.if_icmp .lt 8, 3) := by decide +kernel
theorem dX6_tell_146 : decode mX6_tell.2.1 146 = .ok (.iload 5, 2) := by decide +kernel
theorem dX6_tell_148 : decode mX6_tell.2.1 148 = .ok (.goto 5, 3) := by decide +kernel
theorem dX6_tell_151 : decode mX6_tell.2.1 151 = .ok (.iload 4, 2) := by decide +kernel
theorem dX6_tell_153 : decode mX6_tell.2.1 153 = .ok (.istore 4, 2) := by decide +kernel
theorem dX6_tell_155 : decode mX6_tell.2.1 155 = .ok (.aload_n 0, 1) := by decide +kernel
theorem dX6_tell_156 : decode mX6_tell.2.1 156 = .ok (.getfield 19, 3) := by decide +kernel
theorem dX6_tell_159 : decode mX6_tell.2.1 159 = .ok (.aload_n 0, 1) := by decide +kernel
theorem dX6_tell_160 : decode mX6_tell.2.1 160 = .ok (.getfield 7, 3) := by decide +kernel
theorem dX6_tell_163 : decode mX6_tell.2.1 163 = .ok (.invokestatic 162, 3) := by decide +kernel
theorem dX6_tell_166 : decode mX6_tell.2.1 166 = .ok (.iinc 5 1, 3) := by decide +kernel
theorem dX6_tell_169 : decode mX6_tell.2.1 169 = .ok (.goto (-130), 3) := by decide +kernel
theorem dX6_tell_172 : decode mX6_tell.2.1 172 = .ok (.aload_n 0, 1) := by decide +kernel
theorem dX6_tell_173 : decode mX6_tell.2.1 173 = .ok (.iload 4, 2) := by decide +kernel
theorem dX6_tell_175 : decode mX6_tell.2.1 175 = .ok (.invokevirtual 174, 3) := by decide +kernel
theorem dX6_tell_178 : decode mX6_tell.2.1 178 = .ok (.ireturn, 1) := by decide +kernel
theorem dX6_voice_0 : decode mX6_voice.2.1 0 = .ok (.aload_n 0, 1) := by decide +kernel
theorem dX6_voice_1 : decode mX6_voice.2.1 1 = .ok (.invokevirtual 119, 3) := by decide +kernel
theorem dX6_voice_4 : decode mX6_voice.2.1 4 = .ok (.istore_n 1, 1) := by decide +kernel
theorem dX6_voice_5 : decode mX6_voice.2.1 5 = .ok (.aload_n 0, 1) := by decide +kernel
theorem dX6_voice_6 : decode mX6_voice.2.1 6 = .ok (.iload_n 1, 1) := by decide +kernel
theorem dX6_voice_7 : decode mX6_voice.2.1 7 = .ok (.invokevirtual 128, 3) := by decide +kernel
theorem dX6_voice_10 : decode mX6_voice.2.1 10 = .ok (.istore_n 2, 1) := by decide +kernel
theorem dX6_voice_11 : decode mX6_voice.2.1 11 = .ok (.iconst (-1), 1) := by decide +kernel
theorem dX6_voice_12 : decode mX6_voice.2.1 12 = .ok (.istore_n 3, 1) := by decide +kernel
theorem dX6_voice_13 : decode mX6_voice.2.1 13 = .ok (.iconst (-1), 1) := by decide +kernel
theorem dX6_voice_14 : decode mX6_voice.2.1 14 = .ok (.istore 4, 2) := by decide +kernel
theorem dX6_voice_16 : decode mX6_voice.2.1 16 = .ok (.iconst 0, 1) := by decide +kernel
theorem dX6_voice_17 : decode mX6_voice.2.1 17 = .ok (.istore 5, 2) := by decide +kernel
theorem dX6_voice_19 : decode mX6_voice.2.1 19 = .ok (.iload 5, 2) := by decide +kernel
theorem dX6_voice_21 : decode mX6_voice.2.1 21 = .ok (.aload_n 0, 1) := by decide +kernel
theorem dX6_voice_22 : decode mX6_voice.2.1 22 = .ok (.getfield 7, 3) := by decide +kernel
theorem dX6_voice_25 : decode mX6_voice.2.1 25 = .ok (.iconst 0, 1) := by decide +kernel
theorem dX6_voice_26 : decode mX6_voice.2.1 26 = .ok (.iaload, 1) := by decide +kernel
theorem dX6_voice_27 : decode mX6_voice.2.1 27 = .ok (.if_icmp .ge 88, 3) := by decide +kernel
theorem dX6_voice_30 : decode mX6_voice.2.1 30 = .ok (.aload_n 0, 1) := by decide +kernel
theorem dX6_voice_31 : decode mX6_voice.2.1 31 = .ok (.bipush 6, 2) := by decide +kernel
theorem dX6_voice_33 : decode mX6_voice.2.1 33 = .ok (.iconst 5, 1) := by decide +kernel
theorem dX6_voice_34 : decode mX6_voice.2.1 34 = .ok (.iload 5, 2) := by decide +kernel
theorem dX6_voice_36 : decode mX6_voice.2.1 36 = .ok (.imul, 1) := by decide +kernel
theorem dX6_voice_37 : decode mX6_voice.2.1 37 = .ok (.iadd, 1) := by decide +kernel
theorem dX6_voice_38 : decode mX6_voice.2.1 38 = .ok (.iconst 3, 1) := by decide +kernel
theorem dX6_voice_39 : decode mX6_voice.2.1 39 = .ok (.iadd, 1) := by decide +kernel
theorem dX6_voice_40 : decode mX6_voice.2.1 40 = .ok (.iconst 0, 1) := by decide +kernel
theorem dX6_voice_41 : decode mX6_voice.2.1 41 = .ok (.invokevirtual 57, 3) := by decide +kernel
theorem dX6_voice_44 : decode mX6_voice.2.1 44 = .ok (.istore 6, 2) := by decide +kernel
theorem dX6_voice_46 : decode mX6_voice.2.1 46 = .ok (.aload_n 0, 1) := by decide +kernel
theorem dX6_voice_47 : decode mX6_voice.2.1 47 = .ok (.iload_n 1, 1) := by decide +kernel
theorem dX6_voice_48 : decode mX6_voice.2.1 48 = .ok (.invokevirtual 128, 3) := by decide +kernel
theorem dX6_voice_51 : decode mX6_voice.2.1 51 = .ok (.iload_n 2, 1) := by decide +kernel
theorem dX6_voice_52 : decode mX6_voice.2.1 52 = .ok (.isub, 1) := by decide +kernel
theorem dX6_voice_53 : decode mX6_voice.2.1 53 = .ok (.istore 7, 2) := by decide +kernel
theorem dX6_voice_55 : decode mX6_voice.2.1 55 = .ok (.iload 7, 2) := by decide +kernel
theorem dX6_voice_57 : decode mX6_voice.2.1 57 = .ok (.ifCond .ge 9, 3) := by decide +kernel
theorem dX6_voice_60 : decode mX6_voice.2.1 60 = .ok (.iload 7, 2) := by decide +kernel
theorem dX6_voice_62 : decode mX6_voice.2.1 62 = .ok (.ineg, 1) := by decide +kernel
theorem dX6_voice_63 : decode mX6_voice.2.1 63 = .ok (.goto 5, 3) := by decide +kernel
theorem dX6_voice_66 : decode mX6_voice.2.1 66 = .ok (.iload 7, 2) := by decide +kernel
theorem dX6_voice_68 : decode mX6_voice.2.1 68 = .ok (.istore 7, 2) := by decide +kernel
theorem dX6_voice_70 : decode mX6_voice.2.1 70 = .ok (.aload_n 0, 1) := by decide +kernel
theorem dX6_voice_71 : decode mX6_voice.2.1 71 = .ok (.getfield 7, 3) := by decide +kernel
theorem dX6_voice_74 : decode mX6_voice.2.1 74 = .ok (.bipush 6, 2) := by decide +kernel
theorem dX6_voice_76 : decode mX6_voice.2.1 76 = .ok (.iconst 5, 1) := by decide +kernel
theorem dX6_voice_77 : decode mX6_voice.2.1 77 = .ok (.iload 5, 2) := by decide +kernel
theorem dX6_voice_79 : decode mX6_voice.2.1 79 = .ok (.imul, 1) := by decide +kernel
theorem dX6_voice_80 : decode mX6_voice.2.1 80 = .ok (.iadd, 1) := by decide +kernel
theorem dX6_voice_81 : decode mX6_voice.2.1 81 = .ok (.iconst 3, 1) := by decide +kernel
theorem dX6_voice_82 : decode mX6_voice.2.1 82 = .ok (.iadd, 1) := by decide +kernel
theorem dX6_voice_83 : decode mX6_voice.2.1 83 = .ok (.iload 6, 2) := by decide +kernel
theorem dX6_voice_85 : decode mX6_voice.2.1 85 = .ok (.iastore, 1) := by decide +kernel
theorem dX6_voice_86 : decode mX6_voice.2.1 86 = .ok (.iload 7, 2) := by decide +kernel
theorem dX6_voice_88 : decode mX6_voice.2.1 88 = .ok (.iload 4, 2) := by decide +kernel
theorem dX6_voice_90 : decode mX6_voice.2.1 90 = .ok (.if_icmp .le 8, 3) := by decide +kernel
theorem dX6_voice_93 : decode mX6_voice.2.1 93 = .ok (.iload 5, 2) := by decide +kernel
theorem dX6_voice_95 : decode mX6_voice.2.1 95 = .ok (.goto 4, 3) := by decide +kernel
theorem dX6_voice_98 : decode mX6_voice.2.1 98 = .ok (.iload_n 3, 1) := by decide +kernel
theorem dX6_voice_99 : decode mX6_voice.2.1 99 = .ok (.istore_n 3, 1) := by decide +kernel
theorem dX6_voice_100 : decode mX6_voice.2.1 100 = .ok (.iload 4, 2) := by decide +kernel
theorem dX6_voice_102 : decode mX6_voice.2.1 102 = .ok (.iload 7, 2) := by decide +kernel
theorem dX6_voice_104 : decode mX6_voice.2.1 104 = .ok (.invokestatic 73, 3) := by decide +kernel
theorem dX6_voice_107 : decode mX6_voice.2.1 107 = .ok (.istore 4, 2) := by decide +kernel
theorem dX6_voice_109 : decode mX6_voice.2.1 109 = .ok (.iinc 5 1, 3) := by decide +kernel
theorem dX6_voice_112 : decode mX6_voice.2.1 112 = .ok (.goto (-93), 3) := by decide +kernel
theorem dX6_voice_115 : decode mX6_voice.2.1 115 = .ok (.aload_n 0, 1) := by decide +kernel
theorem dX6_voice_116 : decode mX6_voice.2.1 116 = .ok (.iload_n 3, 1) := by decide +kernel
theorem dX6_voice_117 : decode mX6_voice.2.1 117 = .ok (.invokevirtual 174, 3) := by decide +kernel
theorem dX6_voice_120 : decode mX6_voice.2.1 120 = .ok (.ireturn, 1) := by decide +kernel
theorem dX6_miceFor_0 : decode mX6_miceFor.2.1 0 = .ok (.iload_n 1, 1) := by decide +kernel
theorem dX6_miceFor_1 : decode mX6_miceFor.2.1 1 = .ok (.invokestatic 136, 3) := by decide +kernel
theorem dX6_miceFor_4 : decode mX6_miceFor.2.1 4 = .ok (.ifCond .eq 13, 3) := by decide +kernel
theorem dX6_miceFor_7 : decode mX6_miceFor.2.1 7 = .ok (.iload_n 2, 1) := by decide +kernel
theorem dX6_miceFor_8 : decode mX6_miceFor.2.1 8 = .ok (.i2l, 1) := by decide +kernel
theorem dX6_miceFor_9 : decode mX6_miceFor.2.1 9 = .ok (.lconst 0, 1) := by decide +kernel
theorem dX6_miceFor_10 : decode mX6_miceFor.2.1 10 = .ok (.lconst 1, 1) := by decide +kernel
theorem dX6_miceFor_11 : decode mX6_miceFor.2.1 11 = .ok (.invokestatic 51, 3) := by decide +kernel
theorem dX6_miceFor_14 : decode mX6_miceFor.2.1 14 = .ok (.ifCond .ne 10, 3) := by decide +kernel
theorem dX6_miceFor_17 : decode mX6_miceFor.2.1 17 = .ok (.aload_n 0, 1) := by decide +kernel
theorem dX6_miceFor_18 : decode mX6_miceFor.2.1 18 = .ok (.ldc 43, 2) := by decide +kernel
theorem dX6_miceFor_20 : decode mX6_miceFor.2.1 20 = .ok (.invokevirtual 45, 3) := by decide +kernel
theorem dX6_miceFor_23 : decode mX6_miceFor.2.1 23 = .ok (.ireturn, 1) := by decide +kernel
theorem dX6_miceFor_24 : decode mX6_miceFor.2.1 24 = .ok (.aload_n 0, 1) := by decide +kernel
theorem dX6_miceFor_25 : decode mX6_miceFor.2.1 25 = .ok (.invokevirtual 119, 3) := by decide +kernel
theorem dX6_miceFor_28 : decode mX6_miceFor.2.1 28 = .ok (.istore_n 3, 1) := by decide +kernel
theorem dX6_miceFor_29 : decode mX6_miceFor.2.1 29 = .ok (.aload_n 0, 1) := by decide +kernel
theorem dX6_miceFor_30 : decode mX6_miceFor.2.1 30 = .ok (.getfield 7, 3) := by decide +kernel
theorem dX6_miceFor_33 : decode mX6_miceFor.2.1 33 = .ok (.iconst 4, 1) := by decide +kernel
theorem dX6_miceFor_34 : decode mX6_miceFor.2.1 34 = .ok (.iaload, 1) := by decide +kernel
theorem dX6_miceFor_35 : decode mX6_miceFor.2.1 35 = .ok (.istore 4, 2) := by decide +kernel
theorem dX6_miceFor_37 : decode mX6_miceFor.2.1 37 = .ok (.iconst (-1), 1) := by decide +kernel
theorem dX6_miceFor_38 : decode mX6_miceFor.2.1 38 = .ok (.istore 5, 2) := by decide +kernel
theorem dX6_miceFor_40 : decode mX6_miceFor.2.1 40 = .ok (.iconst 0, 1) := by decide +kernel
theorem dX6_miceFor_41 : decode mX6_miceFor.2.1 41 = .ok (.istore 6, 2) := by decide +kernel
theorem dX6_miceFor_43 : decode mX6_miceFor.2.1 43 = .ok (.iload 6, 2) := by decide +kernel
theorem dX6_miceFor_45 : decode mX6_miceFor.2.1 45 = .ok (.bipush 99, 2) := by decide +kernel
theorem dX6_miceFor_47 : decode mX6_miceFor.2.1 47 = .ok (.if_icmp .gt 57, 3) := by decide +kernel
theorem dX6_miceFor_50 : decode mX6_miceFor.2.1 50 = .ok (.iload 5, 2) := by decide +kernel
theorem dX6_miceFor_52 : decode mX6_miceFor.2.1 52 = .ok (.ifCond .ge 52, 3) := by decide +kernel
theorem dX6_miceFor_55 : decode mX6_miceFor.2.1 55 = .ok (.aload_n 0, 1) := by decide +kernel
theorem dX6_miceFor_56 : decode mX6_miceFor.2.1 56 = .ok (.getfield 7, 3) := by decide +kernel
theorem dX6_miceFor_59 : decode mX6_miceFor.2.1 59 = .ok (.iconst 4, 1) := by decide +kernel
theorem dX6_miceFor_60 : decode mX6_miceFor.2.1 60 = .ok (.iload 6, 2) := by decide +kernel
theorem dX6_miceFor_62 : decode mX6_miceFor.2.1 62 = .ok (.iastore, 1) := by decide +kernel
theorem dX6_miceFor_63 : decode mX6_miceFor.2.1 63 = .ok (.aload_n 0, 1) := by decide +kernel
theorem dX6_miceFor_64 : decode mX6_miceFor.2.1 64 = .ok (.iload_n 3, 1) := by decide +kernel
theorem dX6_miceFor_65 : decode mX6_miceFor.2.1 65 = .ok (.invokevirtual 128, 3) := by decide +kernel
theorem dX6_miceFor_68 : decode mX6_miceFor.2.1 68 = .ok (.iload_n 1, 1) := by decide +kernel
theorem dX6_miceFor_69 : decode mX6_miceFor.2.1 69 = .ok (.if_icmp .lt 7, 3) := by decide +kernel
theorem dX6_miceFor_72 : decode mX6_miceFor.2.1 72 = .ok (.iconst 1, 1) := by decide +kernel
theorem dX6_miceFor_73 : decode mX6_miceFor.2.1 73 = .ok (.goto 4, 3) := by decide +kernel
theorem dX6_miceFor_76 : decode mX6_miceFor.2.1 76 = .ok (.iconst 0, 1) := by decide +kernel
theorem dX6_miceFor_77 : decode mX6_miceFor.2.1 77 = .ok (.iload_n 2, 1) := by decide +kernel
theorem dX6_miceFor_78 : decode mX6_miceFor.2.1 78 = .ok (.iconst 1, 1) := by decide +kernel
theorem dX6_miceFor_79 : decode mX6_miceFor.2.1 79 = .ok (.if_icmp .ne 7, 3) := by decide +kernel
theorem dX6_miceFor_82 : decode mX6_miceFor.2.1 82 = .ok (.iconst 1, 1) := by decide +kernel
theorem dX6_miceFor_83 : decode mX6_miceFor.2.1 83 = .ok (.goto 4, 3) := by decide +kernel
theorem dX6_miceFor_86 : decode mX6_miceFor.2.1 86 = .ok (.iconst 0, 1) := by decide +kernel
theorem dX6_miceFor_87 : decode mX6_miceFor.2.1 87 = .ok (.if_icmp .ne 8, 3) := by decide +kernel
theorem dX6_miceFor_90 : decode mX6_miceFor.2.1 90 = .ok (.iload 6, 2) := by decide +kernel
theorem dX6_miceFor_92 : decode mX6_miceFor.2.1 92 = .ok (.goto 4, 3) := by decide +kernel
theorem dX6_miceFor_95 : decode mX6_miceFor.2.1 95 = .ok (.iconst (-1), 1) := by decide +kernel
theorem dX6_miceFor_96 : decode mX6_miceFor.2.1 96 = .ok (.istore 5, 2) := by decide +kernel
theorem dX6_miceFor_98 : decode mX6_miceFor.2.1 98 = .ok (.iinc 6 1, 3) := by decide +kernel
theorem dX6_miceFor_101 : decode mX6_miceFor.2.1 101 = .ok (.goto (-58), 3) := by decide +kernel
theorem dX6_miceFor_104 : decode mX6_miceFor.2.1 104 = .ok (.aload_n 0, 1) := by decide +kernel
theorem dX6_miceFor_105 : decode mX6_miceFor.2.1 105 = .ok (.getfield 7, 3) := by decide +kernel
theorem dX6_miceFor_108 : decode mX6_miceFor.2.1 108 = .ok (.iconst 4, 1) := by decide +kernel
theorem dX6_miceFor_109 : decode mX6_miceFor.2.1 109 = .ok (.iload 4, 2) := by decide +kernel
theorem dX6_miceFor_111 : decode mX6_miceFor.2.1 111 = .ok (.iastore, 1) := by decide +kernel
theorem dX6_miceFor_112 : decode mX6_miceFor.2.1 112 = .ok (.aload_n 0, 1) := by decide +kernel
theorem dX6_miceFor_113 : decode mX6_miceFor.2.1 113 = .ok (.iload 5, 2) := by decide +kernel
theorem dX6_miceFor_115 : decode mX6_miceFor.2.1 115 = .ok (.invokevirtual 174, 3) := by decide +kernel
theorem dX6_miceFor_118 : decode mX6_miceFor.2.1 118 = .ok (.ireturn, 1) := by decide +kernel
theorem dX6_findsCuts_0 : decode mX6_findsCuts.2.1 0 = .ok (.iconst 1, 1) := by decide +kernel
theorem dX6_findsCuts_1 : decode mX6_findsCuts.2.1 1 = .ok (.istore_n 3, 1) := by decide +kernel
theorem dX6_findsCuts_2 : decode mX6_findsCuts.2.1 2 = .ok (.iload_n 3, 1) := by decide +kernel
theorem dX6_findsCuts_3 : decode mX6_findsCuts.2.1 3 = .ok (.iload_n 1, 1) := by decide +kernel
theorem dX6_findsCuts_4 : decode mX6_findsCuts.2.1 4 = .ok (.if_icmp .gt 70, 3) := by decide +kernel
theorem dX6_findsCuts_7 : decode mX6_findsCuts.2.1 7 = .ok (.aload_n 0, 1) := by decide +kernel
theorem dX6_findsCuts_8 : decode mX6_findsCuts.2.1 8 = .ok (.getfield 40, 3) := by decide +kernel
theorem dX6_findsCuts_11 : decode mX6_findsCuts.2.1 11 = .ok (.iload_n 3, 1) := by decide +kernel
theorem dX6_findsCuts_12 : decode mX6_findsCuts.2.1 12 = .ok (.iconst 0, 1) := by decide +kernel
theorem dX6_findsCuts_13 : decode mX6_findsCuts.2.1 13 = .ok (.iastore, 1) := by decide +kernel
theorem dX6_findsCuts_14 : decode mX6_findsCuts.2.1 14 = .ok (.iconst 1, 1) := by decide +kernel
theorem dX6_findsCuts_15 : decode mX6_findsCuts.2.1 15 = .ok (.istore 4, 2) := by decide +kernel
theorem dX6_findsCuts_17 : decode mX6_findsCuts.2.1 17 = .ok (.iload 4, 2) := by decide +kernel
theorem dX6_findsCuts_19 : decode mX6_findsCuts.2.1 19 = .ok (.iload_n 2, 1) := by decide +kernel
theorem dX6_findsCuts_20 : decode mX6_findsCuts.2.1 20 = .ok (.if_icmp .gt 48, 3) := by decide +kernel
theorem dX6_findsCuts_23 : decode mX6_findsCuts.2.1 23 = .ok (.iload 4, 2) := by decide +kernel
theorem dX6_findsCuts_25 : decode mX6_findsCuts.2.1 25 = .ok (.iload_n 3, 1) := by decide +kernel
theorem dX6_findsCuts_26 : decode mX6_findsCuts.2.1 26 = .ok (.if_icmp .ge 42, 3) := by decide +kernel
theorem dX6_findsCuts_29 : decode mX6_findsCuts.2.1 29 = .ok (.aload_n 0, 1) := by decide +kernel
theorem dX6_findsCuts_30 : decode mX6_findsCuts.2.1 30 = .ok (.getfield 40, 3) := by decide +kernel
theorem dX6_findsCuts_33 : decode mX6_findsCuts.2.1 33 = .ok (.iload_n 3, 1) := by decide +kernel
theorem dX6_findsCuts_34 : decode mX6_findsCuts.2.1 34 = .ok (.iaload, 1) := by decide +kernel
theorem dX6_findsCuts_35 : decode mX6_findsCuts.2.1 35 = .ok (.ifCond .ne 33, 3) := by decide +kernel
theorem dX6_findsCuts_38 : decode mX6_findsCuts.2.1 38 = .ok (.aload_n 0, 1) := by decide +kernel
theorem dX6_findsCuts_39 : decode mX6_findsCuts.2.1 39 = .ok (.getfield 40, 3) := by decide +kernel
theorem dX6_findsCuts_42 : decode mX6_findsCuts.2.1 42 = .ok (.iload_n 3, 1) := by decide +kernel
theorem dX6_findsCuts_43 : decode mX6_findsCuts.2.1 43 = .ok (.aload_n 0, 1) := by decide +kernel
theorem dX6_findsCuts_44 : decode mX6_findsCuts.2.1 44 = .ok (.getfield 40, 3) := by decide +kernel
theorem dX6_findsCuts_47 : decode mX6_findsCuts.2.1 47 = .ok (.iload_n 3, 1) := by decide +kernel
theorem dX6_findsCuts_48 : decode mX6_findsCuts.2.1 48 = .ok (.iload 4, 2) := by decide +kernel
theorem dX6_findsCuts_50 : decode mX6_findsCuts.2.1 50 = .ok (.isub, 1) := by decide +kernel
theorem dX6_findsCuts_51 : decode mX6_findsCuts.2.1 51 = .ok (.iaload, 1) := by decide +kernel
theorem dX6_findsCuts_52 : decode mX6_findsCuts.2.1 52 = .ok (.ifCond .ne 8, 3) := by decide +kernel
theorem dX6_findsCuts_55 : decode mX6_findsCuts.2.1 55 = .ok (.iload 4, 2) := by decide +kernel
theorem dX6_findsCuts_57 : decode mX6_findsCuts.2.1 57 = .ok (.goto 4, 3) := by decide +kernel
theorem dX6_findsCuts_60 : decode mX6_findsCuts.2.1 60 = .ok (.iconst 0, 1) := by decide +kernel
theorem dX6_findsCuts_61 : decode mX6_findsCuts.2.1 61 = .ok (.iastore, 1) := by decide +kernel
theorem dX6_findsCuts_62 : decode mX6_findsCuts.2.1 62 = .ok (.iinc 4 1, 3) := by decide +kernel
theorem dX6_findsCuts_65 : decode mX6_findsCuts.2.1 65 = .ok (.goto (-48), 3) := by decide +kernel
theorem dX6_findsCuts_68 : decode mX6_findsCuts.2.1 68 = .ok (.iinc 3 1, 3) := by decide +kernel
theorem dX6_findsCuts_71 : decode mX6_findsCuts.2.1 71 = .ok (.goto (-69), 3) := by decide +kernel
theorem dX6_findsCuts_74 : decode mX6_findsCuts.2.1 74 = .ok (.return_, 1) := by decide +kernel
theorem dX6_isCut_0 : decode mX6_isCut.2.1 0 = .ok (.iload_n 0, 1) := by decide +kernel
theorem dX6_isCut_1 : decode mX6_isCut.2.1 1 = .ok (.i2l, 1) := by decide +kernel
theorem dX6_isCut_2 : decode mX6_isCut.2.1 2 = .ok (.lconst 1, 1) := by decide +kernel
theorem dX6_isCut_3 : decode mX6_isCut.2.1 3 = .ok (.ldc2_w 177, 3) := by decide +kernel
theorem dX6_isCut_6 : decode mX6_isCut.2.1 6 = .ok (.invokestatic 51, 3) := by decide +kernel
theorem dX6_isCut_9 : decode mX6_isCut.2.1 9 = .ok (.ifCond .eq 19, 3) := by decide +kernel
theorem dX6_isCut_12 : decode mX6_isCut.2.1 12 = .ok (.iload_n 1, 1) := by decide +kernel
theorem dX6_isCut_13 : decode mX6_isCut.2.1 13 = .ok (.i2l, 1) := by decide +kernel
theorem dX6_isCut_14 : decode mX6_isCut.2.1 14 = .ok (.lconst 1, 1) := by decide +kernel
theorem dX6_isCut_15 : decode mX6_isCut.2.1 15 = .ok (.ldc2_w 94, 3) := by decide +kernel
theorem dX6_isCut_18 : decode mX6_isCut.2.1 18 = .ok (.invokestatic 51, 3) := by decide +kernel
theorem dX6_isCut_21 : decode mX6_isCut.2.1 21 = .ok (.ifCond .eq 7, 3) := by decide +kernel
theorem dX6_isCut_24 : decode mX6_isCut.2.1 24 = .ok (.iconst 1, 1) := by decide +kernel
theorem dX6_isCut_25 : decode mX6_isCut.2.1 25 = .ok (.goto 4, 3) := by decide +kernel
theorem dX6_isCut_28 : decode mX6_isCut.2.1 28 = .ok (.iconst 0, 1) := by decide +kernel
theorem dX6_isCut_29 : decode mX6_isCut.2.1 29 = .ok (.ireturn, 1) := by decide +kernel
theorem dX6_wins_0 : decode mX6_wins.2.1 0 = .ok (.iload_n 1, 1) := by decide +kernel
theorem dX6_wins_1 : decode mX6_wins.2.1 1 = .ok (.iload_n 2, 1) := by decide +kernel
theorem dX6_wins_2 : decode mX6_wins.2.1 2 = .ok (.invokestatic 179, 3) := by decide +kernel
theorem dX6_wins_5 : decode mX6_wins.2.1 5 = .ok (.ifCond .ne 10, 3) := by decide +kernel
theorem dX6_wins_8 : decode mX6_wins.2.1 8 = .ok (.aload_n 0, 1) := by decide +kernel
theorem dX6_wins_9 : decode mX6_wins.2.1 9 = .ok (.ldc 43, 2) := by decide +kernel
theorem dX6_wins_11 : decode mX6_wins.2.1 11 = .ok (.invokevirtual 45, 3) := by decide +kernel
theorem dX6_wins_14 : decode mX6_wins.2.1 14 = .ok (.ireturn, 1) := by decide +kernel
theorem dX6_wins_15 : decode mX6_wins.2.1 15 = .ok (.aload_n 0, 1) := by decide +kernel
theorem dX6_wins_16 : decode mX6_wins.2.1 16 = .ok (.iload_n 1, 1) := by decide +kernel
theorem dX6_wins_17 : decode mX6_wins.2.1 17 = .ok (.iload_n 2, 1) := by decide +kernel
theorem dX6_wins_18 : decode mX6_wins.2.1 18 = .ok (.invokevirtual 182, 3) := by decide +kernel
theorem dX6_wins_21 : decode mX6_wins.2.1 21 = .ok (.aload_n 0, 1) := by decide +kernel
theorem dX6_wins_22 : decode mX6_wins.2.1 22 = .ok (.getfield 40, 3) := by decide +kernel
theorem dX6_wins_25 : decode mX6_wins.2.1 25 = .ok (.iload_n 1, 1) := by decide +kernel
theorem dX6_wins_26 : decode mX6_wins.2.1 26 = .ok (.iaload, 1) := by decide +kernel
theorem dX6_wins_27 : decode mX6_wins.2.1 27 = .ok (.ifCond .le 7, 3) := by decide +kernel
theorem dX6_wins_30 : decode mX6_wins.2.1 30 = .ok (.iconst 1, 1) := by decide +kernel
theorem dX6_wins_31 : decode mX6_wins.2.1 31 = .ok (.goto 4, 3) := by decide +kernel
theorem dX6_wins_34 : decode mX6_wins.2.1 34 = .ok (.iconst 0, 1) := by decide +kernel
theorem dX6_wins_35 : decode mX6_wins.2.1 35 = .ok (.ireturn, 1) := by decide +kernel
theorem dX6_cut_0 : decode mX6_cut.2.1 0 = .ok (.iload_n 1, 1) := by decide +kernel
theorem dX6_cut_1 : decode mX6_cut.2.1 1 = .ok (.iload_n 2, 1) := by decide +kernel
theorem dX6_cut_2 : decode mX6_cut.2.1 2 = .ok (.invokestatic 179, 3) := by decide +kernel
theorem dX6_cut_5 : decode mX6_cut.2.1 5 = .ok (.ifCond .ne 10, 3) := by decide +kernel
theorem dX6_cut_8 : decode mX6_cut.2.1 8 = .ok (.aload_n 0, 1) := by decide +kernel
theorem dX6_cut_9 : decode mX6_cut.2.1 9 = .ok (.ldc 43, 2) := by decide +kernel
theorem dX6_cut_11 : decode mX6_cut.2.1 11 = .ok (.invokevirtual 45, 3) := by decide +kernel
theorem dX6_cut_14 : decode mX6_cut.2.1 14 = .ok (.ireturn, 1) := by decide +kernel
theorem dX6_cut_15 : decode mX6_cut.2.1 15 = .ok (.aload_n 0, 1) := by decide +kernel
theorem dX6_cut_16 : decode mX6_cut.2.1 16 = .ok (.iload_n 1, 1) := by decide +kernel
theorem dX6_cut_17 : decode mX6_cut.2.1 17 = .ok (.iload_n 2, 1) := by decide +kernel
theorem dX6_cut_18 : decode mX6_cut.2.1 18 = .ok (.invokevirtual 182, 3) := by decide +kernel
theorem dX6_cut_21 : decode mX6_cut.2.1 21 = .ok (.aload_n 0, 1) := by decide +kernel
theorem dX6_cut_22 : decode mX6_cut.2.1 22 = .ok (.getfield 40, 3) := by decide +kernel
theorem dX6_cut_25 : decode mX6_cut.2.1 25 = .ok (.iload_n 1, 1) := by decide +kernel
theorem dX6_cut_26 : decode mX6_cut.2.1 26 = .ok (.iaload, 1) := by decide +kernel
theorem dX6_cut_27 : decode mX6_cut.2.1 27 = .ok (.ifCond .le 12, 3) := by decide +kernel
theorem dX6_cut_30 : decode mX6_cut.2.1 30 = .ok (.aload_n 0, 1) := by decide +kernel
theorem dX6_cut_31 : decode mX6_cut.2.1 31 = .ok (.getfield 40, 3) := by decide +kernel
theorem dX6_cut_34 : decode mX6_cut.2.1 34 = .ok (.iload_n 1, 1) := by decide +kernel
theorem dX6_cut_35 : decode mX6_cut.2.1 35 = .ok (.iaload, 1) := by decide +kernel
theorem dX6_cut_36 : decode mX6_cut.2.1 36 = .ok (.goto 9, 3) := by decide +kernel
theorem dX6_cut_39 : decode mX6_cut.2.1 39 = .ok (.aload_n 0, 1) := by decide +kernel
theorem dX6_cut_40 : decode mX6_cut.2.1 40 = .ok (.ldc 44, 2) := by decide +kernel
theorem dX6_cut_42 : decode mX6_cut.2.1 42 = .ok (.invokevirtual 45, 3) := by decide +kernel
theorem dX6_cut_45 : decode mX6_cut.2.1 45 = .ok (.ireturn, 1) := by decide +kernel
theorem dX6_isTold_0 : decode mX6_isTold.2.1 0 = .ok (.aload_n 0, 1) := by decide +kernel
theorem dX6_isTold_1 : decode mX6_isTold.2.1 1 = .ok (.getfield 7, 3) := by decide +kernel
theorem dX6_isTold_4 : decode mX6_isTold.2.1 4 = .ok (.aload_n 0, 1) := by decide +kernel
theorem dX6_isTold_5 : decode mX6_isTold.2.1 5 = .ok (.getfield 19, 3) := by decide +kernel
theorem dX6_isTold_8 : decode mX6_isTold.2.1 8 = .ok (.invokestatic 162, 3) := by decide +kernel
theorem dX6_isTold_11 : decode mX6_isTold.2.1 11 = .ok (.iconst 1, 1) := by decide +kernel
theorem dX6_isTold_12 : decode mX6_isTold.2.1 12 = .ok (.istore_n 2, 1) := by decide +kernel
theorem dX6_isTold_13 : decode mX6_isTold.2.1 13 = .ok (.iconst 0, 1) := by decide +kernel
theorem dX6_isTold_14 : decode mX6_isTold.2.1 14 = .ok (.istore_n 3, 1) := by decide +kernel
theorem dX6_isTold_15 : decode mX6_isTold.2.1 15 = .ok (.iload_n 3, 1) := by decide +kernel
theorem dX6_isTold_16 : decode mX6_isTold.2.1 16 = .ok (.aload_n 0, 1) := by decide +kernel
theorem dX6_isTold_17 : decode mX6_isTold.2.1 17 = .ok (.getfield 31, 3) := by decide +kernel
theorem dX6_isTold_20 : decode mX6_isTold.2.1 20 = .ok (.iload_n 1, 1) := by decide +kernel
theorem dX6_isTold_21 : decode mX6_isTold.2.1 21 = .ok (.iaload, 1) := by decide +kernel
theorem dX6_isTold_22 : decode mX6_isTold.2.1 22 = .ok (.if_icmp .ge 53, 3) := by decide +kernel
theorem dX6_isTold_25 : decode mX6_isTold.2.1 25 = .ok (.iload_n 2, 1) := by decide +kernel
theorem dX6_isTold_26 : decode mX6_isTold.2.1 26 = .ok (.ifCond .eq 49, 3) := by decide +kernel
theorem dX6_isTold_29 : decode mX6_isTold.2.1 29 = .ok (.aload_n 0, 1) := by decide +kernel
theorem dX6_isTold_30 : decode mX6_isTold.2.1 30 = .ok (.getfield 34, 3) := by decide +kernel
theorem dX6_isTold_33 : decode mX6_isTold.2.1 33 = .ok (.bipush 40, 2) := by decide +kernel
theorem dX6_isTold_35 : decode mX6_isTold.2.1 35 = .ok (.iload_n 1, 1) := by decide +kernel
theorem dX6_isTold_36 : decode mX6_isTold.2.1 36 = .ok (.imul, 1) := by decide +kernel
theorem dX6_isTold_37 : decode mX6_isTold.2.1 37 = .ok (.iload_n 3, 1) := by decide +kernel
theorem dX6_isTold_38 : decode mX6_isTold.2.1 38 = .ok (.iadd, 1) := by decide +kernel
theorem dX6_isTold_39 : decode mX6_isTold.2.1 39 = .ok (.iaload, 1) := by decide +kernel
theorem dX6_isTold_40 : decode mX6_isTold.2.1 40 = .ok (.istore 4, 2) := by decide +kernel
theorem dX6_isTold_42 : decode mX6_isTold.2.1 42 = .ok (.iload 4, 2) := by decide +kernel
theorem dX6_isTold_44 : decode mX6_isTold.2.1 44 = .ok (.sipush 9999, 3) := by decide +kernel
theorem dX6_isTold_47 : decode mX6_isTold.2.1 47 = .ok (.if_icmp .eq 12, 3) := by decide +kernel
theorem dX6_isTold_50 : decode mX6_isTold.2.1 50 = .ok (.iload 4, 2) := by decide +kernel
theorem dX6_isTold_52 : decode mX6_isTold.2.1 52 = .ok (.aload_n 0, 1) := by decide +kernel
theorem dX6_isTold_53 : decode mX6_isTold.2.1 53 = .ok (.invokevirtual 131, 3) := by decide +kernel
theorem dX6_isTold_56 : decode mX6_isTold.2.1 56 = .ok (.if_icmp .ne 7, 3) := by decide +kernel
theorem dX6_isTold_59 : decode mX6_isTold.2.1 59 = .ok (.iconst 1, 1) := by decide +kernel
theorem dX6_isTold_60 : decode mX6_isTold.2.1 60 = .ok (.goto 4, 3) := by decide +kernel
theorem dX6_isTold_63 : decode mX6_isTold.2.1 63 = .ok (.iconst 0, 1) := by decide +kernel
theorem dX6_isTold_64 : decode mX6_isTold.2.1 64 = .ok (.istore_n 2, 1) := by decide +kernel
theorem dX6_isTold_65 : decode mX6_isTold.2.1 65 = .ok (.aload_n 0, 1) := by decide +kernel
theorem dX6_isTold_66 : decode mX6_isTold.2.1 66 = .ok (.invokevirtual 142, 3) := by decide +kernel
theorem dX6_isTold_69 : decode mX6_isTold.2.1 69 = .ok (.iinc 3 1, 3) := by decide +kernel
theorem dX6_isTold_72 : decode mX6_isTold.2.1 72 = .ok (.goto (-57), 3) := by decide +kernel
theorem dX6_isTold_75 : decode mX6_isTold.2.1 75 = .ok (.aload_n 0, 1) := by decide +kernel
theorem dX6_isTold_76 : decode mX6_isTold.2.1 76 = .ok (.getfield 19, 3) := by decide +kernel
theorem dX6_isTold_79 : decode mX6_isTold.2.1 79 = .ok (.aload_n 0, 1) := by decide +kernel
theorem dX6_isTold_80 : decode mX6_isTold.2.1 80 = .ok (.getfield 7, 3) := by decide +kernel
theorem dX6_isTold_83 : decode mX6_isTold.2.1 83 = .ok (.invokestatic 162, 3) := by decide +kernel
theorem dX6_isTold_86 : decode mX6_isTold.2.1 86 = .ok (.iload_n 2, 1) := by decide +kernel
theorem dX6_isTold_87 : decode mX6_isTold.2.1 87 = .ok (.ireturn, 1) := by decide +kernel
theorem dX6_findsFits_0 : decode mX6_findsFits.2.1 0 = .ok (.bipush 6, 2) := by decide +kernel
theorem dX6_findsFits_2 : decode mX6_findsFits.2.1 2 = .ok (.iconst 5, 1) := by decide +kernel
theorem dX6_findsFits_3 : decode mX6_findsFits.2.1 3 = .ok (.iload_n 2, 1) := by decide +kernel
theorem dX6_findsFits_4 : decode mX6_findsFits.2.1 4 = .ok (.imul, 1) := by decide +kernel
theorem dX6_findsFits_5 : decode mX6_findsFits.2.1 5 = .ok (.iadd, 1) := by decide +kernel
theorem dX6_findsFits_6 : decode mX6_findsFits.2.1 6 = .ok (.iconst 3, 1) := by decide +kernel
theorem dX6_findsFits_7 : decode mX6_findsFits.2.1 7 = .ok (.iadd, 1) := by decide +kernel
theorem dX6_findsFits_8 : decode mX6_findsFits.2.1 8 = .ok (.istore_n 3, 1) := by decide +kernel
theorem dX6_findsFits_9 : decode mX6_findsFits.2.1 9 = .ok (.aload_n 0, 1) := by decide +kernel
theorem dX6_findsFits_10 : decode mX6_findsFits.2.1 10 = .ok (.getfield 7, 3) := by decide +kernel
theorem dX6_findsFits_13 : decode mX6_findsFits.2.1 13 = .ok (.iload_n 3, 1) := by decide +kernel
theorem dX6_findsFits_14 : decode mX6_findsFits.2.1 14 = .ok (.iaload, 1) := by decide +kernel
theorem dX6_findsFits_15 : decode mX6_findsFits.2.1 15 = .ok (.istore 4, 2) := by decide +kernel
theorem dX6_findsFits_17 : decode mX6_findsFits.2.1 17 = .ok (.aload_n 0, 1) := by decide +kernel
theorem dX6_findsFits_18 : decode mX6_findsFits.2.1 18 = .ok (.iconst 0, 1) := by decide +kernel
theorem dX6_findsFits_19 : decode mX6_findsFits.2.1 19 = .ok (.putfield 185, 3) := by decide +kernel
theorem dX6_findsFits_22 : decode mX6_findsFits.2.1 22 = .ok (.bipush 9, 2) := by decide +kernel
theorem dX6_findsFits_24 : decode mX6_findsFits.2.1 24 = .ok (.istore 5, 2) := by decide +kernel
theorem dX6_findsFits_26 : decode mX6_findsFits.2.1 26 = .ok (.iload 5, 2) := by decide +kernel
theorem dX6_findsFits_28 : decode mX6_findsFits.2.1 28 = .ok (.bipush (-9), 2) := by decide +kernel
theorem dX6_findsFits_30 : decode mX6_findsFits.2.1 30 = .ok (.if_icmp .lt 41, 3) := by decide +kernel
theorem dX6_findsFits_33 : decode mX6_findsFits.2.1 33 = .ok (.aload_n 0, 1) := by decide +kernel
theorem dX6_findsFits_34 : decode mX6_findsFits.2.1 34 = .ok (.getfield 7, 3) := by decide +kernel
theorem dX6_findsFits_37 : decode mX6_findsFits.2.1 37 = .ok (.iload_n 3, 1) := by decide +kernel
theorem dX6_findsFits_38 : decode mX6_findsFits.2.1 38 = .ok (.iload 5, 2) := by decide +kernel
theorem dX6_findsFits_40 : decode mX6_findsFits.2.1 40 = .ok (.iastore, 1) := by decide +kernel
theorem dX6_findsFits_41 : decode mX6_findsFits.2.1 41 = .ok (.aload_n 0, 1) := by decide +kernel
theorem dX6_findsFits_42 : decode mX6_findsFits.2.1 42 = .ok (.iload_n 1, 1) := by decide +kernel
theorem dX6_findsFits_43 : decode mX6_findsFits.2.1 43 = .ok (.invokevirtual 189, 3) := by decide +kernel
theorem dX6_findsFits_46 : decode mX6_findsFits.2.1 46 = .ok (.ifCond .eq 19, 3) := by decide +kernel
theorem dX6_findsFits_49 : decode mX6_findsFits.2.1 49 = .ok (.aload_n 0, 1) := by decide +kernel
theorem dX6_findsFits_50 : decode mX6_findsFits.2.1 50 = .ok (.dup, 1) := by decide +kernel
theorem dX6_findsFits_51 : decode mX6_findsFits.2.1 51 = .ok (.getfield 185, 3) := by decide +kernel
theorem dX6_findsFits_54 : decode mX6_findsFits.2.1 54 = .ok (.iconst 1, 1) := by decide +kernel
theorem dX6_findsFits_55 : decode mX6_findsFits.2.1 55 = .ok (.iadd, 1) := by decide +kernel
theorem dX6_findsFits_56 : decode mX6_findsFits.2.1 56 = .ok (.putfield 185, 3) := by decide +kernel
theorem dX6_findsFits_59 : decode mX6_findsFits.2.1 59 = .ok (.aload_n 0, 1) := by decide +kernel
theorem dX6_findsFits_60 : decode mX6_findsFits.2.1 60 = .ok (.iload 5, 2) := by decide +kernel
theorem dX6_findsFits_62 : decode mX6_findsFits.2.1 62 = .ok (.putfield 192, 3) := by decide +kernel
theorem dX6_findsFits_65 : decode mX6_findsFits.2.1 65 = .ok (.iinc 5 (-1), 3) := by decide +kernel
theorem dX6_findsFits_68 : decode mX6_findsFits.2.1 68 = .ok (.goto (-42), 3) := by decide +kernel
theorem dX6_findsFits_71 : decode mX6_findsFits.2.1 71 = .ok (.aload_n 0, 1) := by decide +kernel
theorem dX6_findsFits_72 : decode mX6_findsFits.2.1 72 = .ok (.getfield 7, 3) := by decide +kernel
theorem dX6_findsFits_75 : decode mX6_findsFits.2.1 75 = .ok (.iload_n 3, 1) := by decide +kernel
theorem dX6_findsFits_76 : decode mX6_findsFits.2.1 76 = .ok (.iload 4, 2) := by decide +kernel
theorem dX6_findsFits_78 : decode mX6_findsFits.2.1 78 = .ok (.iastore, 1) := by decide +kernel
theorem dX6_findsFits_79 : decode mX6_findsFits.2.1 79 = .ok (.return_, 1) := by decide +kernel
theorem dX6_wantsFor_0 : decode mX6_wantsFor.2.1 0 = .ok (.aload_n 0, 1) := by decide +kernel
theorem dX6_wantsFor_1 : decode mX6_wantsFor.2.1 1 = .ok (.iload_n 1, 1) := by decide +kernel
theorem dX6_wantsFor_2 : decode mX6_wantsFor.2.1 2 = .ok (.invokevirtual 195, 3) := by decide +kernel
theorem dX6_wantsFor_5 : decode mX6_wantsFor.2.1 5 = .ok (.ifCond .eq 11, 3) := by decide +kernel
theorem dX6_wantsFor_8 : decode mX6_wantsFor.2.1 8 = .ok (.aload_n 0, 1) := by decide +kernel
theorem dX6_wantsFor_9 : decode mX6_wantsFor.2.1 9 = .ok (.iload_n 1, 1) := by decide +kernel
theorem dX6_wantsFor_10 : decode mX6_wantsFor.2.1 10 = .ok (.invokevirtual 195, 3) := by decide +kernel
theorem dX6_wantsFor_13 : decode mX6_wantsFor.2.1 13 = .ok (.goto 17, 3) := by decide +kernel
theorem dX6_wantsFor_16 : decode mX6_wantsFor.2.1 16 = .ok (.aload_n 0, 1) := by decide +kernel
theorem dX6_wantsFor_17 : decode mX6_wantsFor.2.1 17 = .ok (.iload_n 2, 1) := by decide +kernel
theorem dX6_wantsFor_18 : decode mX6_wantsFor.2.1 18 = .ok (.invokevirtual 82, 3) := by decide +kernel
theorem dX6_wantsFor_21 : decode mX6_wantsFor.2.1 21 = .ok (.ifCond .eq 7, 3) := by decide +kernel
theorem dX6_wantsFor_24 : decode mX6_wantsFor.2.1 24 = .ok (.iconst 0, 1) := by decide +kernel
theorem dX6_wantsFor_25 : decode mX6_wantsFor.2.1 25 = .ok (.goto 5, 3) := by decide +kernel
theorem dX6_wantsFor_28 : decode mX6_wantsFor.2.1 28 = .ok (.ldc 43, 2) := by decide +kernel
theorem dX6_wantsFor_30 : decode mX6_wantsFor.2.1 30 = .ok (.ireturn, 1) := by decide +kernel
theorem dX6_fits_0 : decode mX6_fits.2.1 0 = .ok (.aload_n 0, 1) := by decide +kernel
theorem dX6_fits_1 : decode mX6_fits.2.1 1 = .ok (.iload_n 1, 1) := by decide +kernel
theorem dX6_fits_2 : decode mX6_fits.2.1 2 = .ok (.iload_n 2, 1) := by decide +kernel
theorem dX6_fits_3 : decode mX6_fits.2.1 3 = .ok (.invokevirtual 198, 3) := by decide +kernel
theorem dX6_fits_6 : decode mX6_fits.2.1 6 = .ok (.istore_n 3, 1) := by decide +kernel
theorem dX6_fits_7 : decode mX6_fits.2.1 7 = .ok (.iload_n 3, 1) := by decide +kernel
theorem dX6_fits_8 : decode mX6_fits.2.1 8 = .ok (.ifCond .eq 9, 3) := by decide +kernel
theorem dX6_fits_11 : decode mX6_fits.2.1 11 = .ok (.aload_n 0, 1) := by decide +kernel
theorem dX6_fits_12 : decode mX6_fits.2.1 12 = .ok (.iload_n 3, 1) := by decide +kernel
theorem dX6_fits_13 : decode mX6_fits.2.1 13 = .ok (.invokevirtual 45, 3) := by decide +kernel
theorem dX6_fits_16 : decode mX6_fits.2.1 16 = .ok (.ireturn, 1) := by decide +kernel
theorem dX6_fits_17 : decode mX6_fits.2.1 17 = .ok (.aload_n 0, 1) := by decide +kernel
theorem dX6_fits_18 : decode mX6_fits.2.1 18 = .ok (.iload_n 1, 1) := by decide +kernel
theorem dX6_fits_19 : decode mX6_fits.2.1 19 = .ok (.iload_n 2, 1) := by decide +kernel
theorem dX6_fits_20 : decode mX6_fits.2.1 20 = .ok (.invokevirtual 201, 3) := by decide +kernel
theorem dX6_fits_23 : decode mX6_fits.2.1 23 = .ok (.aload_n 0, 1) := by decide +kernel
theorem dX6_fits_24 : decode mX6_fits.2.1 24 = .ok (.getfield 185, 3) := by decide +kernel
theorem dX6_fits_27 : decode mX6_fits.2.1 27 = .ok (.ireturn, 1) := by decide +kernel
theorem dX6_thinks_0 : decode mX6_thinks.2.1 0 = .ok (.aload_n 0, 1) := by decide +kernel
theorem dX6_thinks_1 : decode mX6_thinks.2.1 1 = .ok (.iload_n 1, 1) := by decide +kernel
theorem dX6_thinks_2 : decode mX6_thinks.2.1 2 = .ok (.iload_n 2, 1) := by decide +kernel
theorem dX6_thinks_3 : decode mX6_thinks.2.1 3 = .ok (.invokevirtual 198, 3) := by decide +kernel
theorem dX6_thinks_6 : decode mX6_thinks.2.1 6 = .ok (.istore_n 3, 1) := by decide +kernel
theorem dX6_thinks_7 : decode mX6_thinks.2.1 7 = .ok (.iload_n 3, 1) := by decide +kernel
theorem dX6_thinks_8 : decode mX6_thinks.2.1 8 = .ok (.ifCond .eq 9, 3) := by decide +kernel
theorem dX6_thinks_11 : decode mX6_thinks.2.1 11 = .ok (.aload_n 0, 1) := by decide +kernel
theorem dX6_thinks_12 : decode mX6_thinks.2.1 12 = .ok (.iload_n 3, 1) := by decide +kernel
theorem dX6_thinks_13 : decode mX6_thinks.2.1 13 = .ok (.invokevirtual 45, 3) := by decide +kernel
theorem dX6_thinks_16 : decode mX6_thinks.2.1 16 = .ok (.ireturn, 1) := by decide +kernel
theorem dX6_thinks_17 : decode mX6_thinks.2.1 17 = .ok (.aload_n 0, 1) := by decide +kernel
theorem dX6_thinks_18 : decode mX6_thinks.2.1 18 = .ok (.iload_n 1, 1) := by decide +kernel
theorem dX6_thinks_19 : decode mX6_thinks.2.1 19 = .ok (.iload_n 2, 1) := by decide +kernel
theorem dX6_thinks_20 : decode mX6_thinks.2.1 20 = .ok (.invokevirtual 201, 3) := by decide +kernel
theorem dX6_thinks_23 : decode mX6_thinks.2.1 23 = .ok (.aload_n 0, 1) := by decide +kernel
theorem dX6_thinks_24 : decode mX6_thinks.2.1 24 = .ok (.getfield 185, 3) := by decide +kernel
theorem dX6_thinks_27 : decode mX6_thinks.2.1 27 = .ok (.ifCond .le 10, 3) := by decide +kernel
theorem dX6_thinks_30 : decode mX6_thinks.2.1 30 = .ok (.aload_n 0, 1) := by decide +kernel
theorem dX6_thinks_31 : decode mX6_thinks.2.1 31 = .ok (.getfield 192, 3) := by decide +kernel
theorem dX6_thinks_34 : decode mX6_thinks.2.1 34 = .ok (.goto 9, 3) := by decide +kernel
theorem dX6_thinks_37 : decode mX6_thinks.2.1 37 = .ok (.aload_n 0, 1) := by decide +kernel
theorem dX6_thinks_38 : decode mX6_thinks.2.1 38 = .ok (.ldc 44, 2) := by decide +kernel
theorem dX6_thinks_40 : decode mX6_thinks.2.1 40 = .ok (.invokevirtual 45, 3) := by decide +kernel
theorem dX6_thinks_43 : decode mX6_thinks.2.1 43 = .ok (.ireturn, 1) := by decide +kernel
theorem dX6_draw_0 : decode mX6_draw.2.1 0 = .ok (.aload_n 0, 1) := by decide +kernel
theorem dX6_draw_1 : decode mX6_draw.2.1 1 = .ok (.getfield 7, 3) := by decide +kernel
theorem dX6_draw_4 : decode mX6_draw.2.1 4 = .ok (.iconst 2, 1) := by decide +kernel
theorem dX6_draw_5 : decode mX6_draw.2.1 5 = .ok (.aload_n 0, 1) := by decide +kernel
theorem dX6_draw_6 : decode mX6_draw.2.1 6 = .ok (.getfield 7, 3) := by decide +kernel
theorem dX6_draw_9 : decode mX6_draw.2.1 9 = .ok (.iconst 2, 1) := by decide +kernel
theorem dX6_draw_10 : decode mX6_draw.2.1 10 = .ok (.iaload, 1) := by decide +kernel
theorem dX6_draw_11 : decode mX6_draw.2.1 11 = .ok (.ldc 204, 2) := by decide +kernel
theorem dX6_draw_13 : decode mX6_draw.2.1 13 = .ok (.imul, 1) := by decide +kernel
theorem dX6_draw_14 : decode mX6_draw.2.1 14 = .ok (.sipush 12345, 3) := by decide +kernel
theorem dX6_draw_17 : decode mX6_draw.2.1 17 = .ok (.iadd, 1) := by decide +kernel
theorem dX6_draw_18 : decode mX6_draw.2.1 18 = .ok (.iastore, 1) := by decide +kernel
theorem dX6_draw_19 : decode mX6_draw.2.1 19 = .ok (.aload_n 0, 1) := by decide +kernel
theorem dX6_draw_20 : decode mX6_draw.2.1 20 = .ok (.getfield 7, 3) := by decide +kernel
theorem dX6_draw_23 : decode mX6_draw.2.1 23 = .ok (.iconst 2, 1) := by decide +kernel
theorem dX6_draw_24 : decode mX6_draw.2.1 24 = .ok (.iaload, 1) := by decide +kernel
theorem dX6_draw_25 : decode mX6_draw.2.1 25 = .ok (.bipush 8, 2) := by decide +kernel
theorem dX6_draw_27 : decode mX6_draw.2.1 27 = .ok (.iushr, 1) := by decide +kernel
theorem dX6_draw_28 : decode mX6_draw.2.1 28 = .ok (.ireturn, 1) := by decide +kernel
theorem dX6_weathers_0 : decode mX6_weathers.2.1 0 = .ok (.iload_n 1, 1) := by decide +kernel
theorem dX6_weathers_1 : decode mX6_weathers.2.1 1 = .ok (.i2l, 1) := by decide +kernel
theorem dX6_weathers_2 : decode mX6_weathers.2.1 2 = .ok (.lconst 1, 1) := by decide +kernel
theorem dX6_weathers_3 : decode mX6_weathers.2.1 3 = .ok (.ldc2_w 94, 3) := by decide +kernel
theorem dX6_weathers_6 : decode mX6_weathers.2.1 6 = .ok (.invokestatic 51, 3) := by decide +kernel
theorem dX6_weathers_9 : decode mX6_weathers.2.1 9 = .ok (.ifCond .ne 10, 3) := by decide +kernel
theorem dX6_weathers_12 : decode mX6_weathers.2.1 12 = .ok (.aload_n 0, 1) := by decide +kernel
theorem dX6_weathers_13 : decode mX6_weathers.2.1 13 = .ok (.ldc 43, 2) := by decide +kernel
theorem dX6_weathers_15 : decode mX6_weathers.2.1 15 = .ok (.invokevirtual 45, 3) := by decide +kernel
theorem dX6_weathers_18 : decode mX6_weathers.2.1 18 = .ok (.ireturn, 1) := by decide +kernel
theorem dX6_weathers_19 : decode mX6_weathers.2.1 19 = .ok (.aload_n 0, 1) := by decide +kernel
theorem dX6_weathers_20 : decode mX6_weathers.2.1 20 = .ok (.getfield 7, 3) := by decide +kernel
theorem dX6_weathers_23 : decode mX6_weathers.2.1 23 = .ok (.iconst 1, 1) := by decide +kernel
theorem dX6_weathers_24 : decode mX6_weathers.2.1 24 = .ok (.iaload, 1) := by decide +kernel
theorem dX6_weathers_25 : decode mX6_weathers.2.1 25 = .ok (.iload_n 1, 1) := by decide +kernel
theorem dX6_weathers_26 : decode mX6_weathers.2.1 26 = .ok (.iadd, 1) := by decide +kernel
theorem dX6_weathers_27 : decode mX6_weathers.2.1 27 = .ok (.ldc 147, 2) := by decide +kernel
theorem dX6_weathers_29 : decode mX6_weathers.2.1 29 = .ok (.if_icmp .le 10, 3) := by decide +kernel
theorem dX6_weathers_32 : decode mX6_weathers.2.1 32 = .ok (.aload_n 0, 1) := by decide +kernel
theorem dX6_weathers_33 : decode mX6_weathers.2.1 33 = .ok (.ldc 148, 2) := by decide +kernel
theorem dX6_weathers_35 : decode mX6_weathers.2.1 35 = .ok (.invokevirtual 45, 3) := by decide +kernel
theorem dX6_weathers_38 : decode mX6_weathers.2.1 38 = .ok (.ireturn, 1) := by decide +kernel
theorem dX6_weathers_39 : decode mX6_weathers.2.1 39 = .ok (.iconst 0, 1) := by decide +kernel
theorem dX6_weathers_40 : decode mX6_weathers.2.1 40 = .ok (.istore_n 2, 1) := by decide +kernel
theorem dX6_weathers_41 : decode mX6_weathers.2.1 41 = .ok (.iload_n 2, 1) := by decide +kernel
theorem dX6_weathers_42 : decode mX6_weathers.2.1 42 = .ok (.iload_n 1, 1) := by decide +kernel
theorem dX6_weathers_43 : decode mX6_weathers.2.1 43 = .ok (.if_icmp .ge 39, 3) := by decide +kernel
theorem dX6_weathers_46 : decode mX6_weathers.2.1 46 = .ok (.aload_n 0, 1) := by decide +kernel
theorem dX6_weathers_47 : decode mX6_weathers.2.1 47 = .ok (.getfield 7, 3) := by decide +kernel
theorem dX6_weathers_50 : decode mX6_weathers.2.1 50 = .ok (.iconst 3, 1) := by decide +kernel
theorem dX6_weathers_51 : decode mX6_weathers.2.1 51 = .ok (.aload_n 0, 1) := by decide +kernel
theorem dX6_weathers_52 : decode mX6_weathers.2.1 52 = .ok (.invokevirtual 205, 3) := by decide +kernel
theorem dX6_weathers_55 : decode mX6_weathers.2.1 55 = .ok (.bipush 100, 2) := by decide +kernel
theorem dX6_weathers_57 : decode mX6_weathers.2.1 57 = .ok (.irem, 1) := by decide +kernel
theorem dX6_weathers_58 : decode mX6_weathers.2.1 58 = .ok (.iastore, 1) := by decide +kernel
theorem dX6_weathers_59 : decode mX6_weathers.2.1 59 = .ok (.aload_n 0, 1) := by decide +kernel
theorem dX6_weathers_60 : decode mX6_weathers.2.1 60 = .ok (.getfield 7, 3) := by decide +kernel
theorem dX6_weathers_63 : decode mX6_weathers.2.1 63 = .ok (.iconst 5, 1) := by decide +kernel
theorem dX6_weathers_64 : decode mX6_weathers.2.1 64 = .ok (.aload_n 0, 1) := by decide +kernel
theorem dX6_weathers_65 : decode mX6_weathers.2.1 65 = .ok (.invokevirtual 205, 3) := by decide +kernel
theorem dX6_weathers_68 : decode mX6_weathers.2.1 68 = .ok (.bipush 100, 2) := by decide +kernel
theorem dX6_weathers_70 : decode mX6_weathers.2.1 70 = .ok (.irem, 1) := by decide +kernel
theorem dX6_weathers_71 : decode mX6_weathers.2.1 71 = .ok (.iastore, 1) := by decide +kernel
theorem dX6_weathers_72 : decode mX6_weathers.2.1 72 = .ok (.aload_n 0, 1) := by decide +kernel
theorem dX6_weathers_73 : decode mX6_weathers.2.1 73 = .ok (.invokevirtual 142, 3) := by decide +kernel
theorem dX6_weathers_76 : decode mX6_weathers.2.1 76 = .ok (.iinc 2 1, 3) := by decide +kernel
theorem dX6_weathers_79 : decode mX6_weathers.2.1 79 = .ok (.goto (-38), 3) := by decide +kernel
theorem dX6_weathers_82 : decode mX6_weathers.2.1 82 = .ok (.aload_n 0, 1) := by decide +kernel
theorem dX6_weathers_83 : decode mX6_weathers.2.1 83 = .ok (.invokevirtual 131, 3) := by decide +kernel
theorem dX6_weathers_86 : decode mX6_weathers.2.1 86 = .ok (.ireturn, 1) := by decide +kernel
theorem dX6_odds_0 : decode mX6_odds.2.1 0 = .ok (.iload_n 1, 1) := by decide +kernel
theorem dX6_odds_1 : decode mX6_odds.2.1 1 = .ok (.i2l, 1) := by decide +kernel
theorem dX6_odds_2 : decode mX6_odds.2.1 2 = .ok (.lconst 0, 1) := by decide +kernel
theorem dX6_odds_3 : decode mX6_odds.2.1 3 = .ok (.ldc2_w 208, 3) := by decide +kernel
theorem dX6_odds_6 : decode mX6_odds.2.1 6 = .ok (.invokestatic 51, 3) := by decide +kernel
theorem dX6_odds_9 : decode mX6_odds.2.1 9 = .ok (.ifCond .eq 13, 3) := by decide +kernel
theorem dX6_odds_12 : decode mX6_odds.2.1 12 = .ok (.iload_n 2, 1) := by decide +kernel
theorem dX6_odds_13 : decode mX6_odds.2.1 13 = .ok (.i2l, 1) := by decide +kernel
theorem dX6_odds_14 : decode mX6_odds.2.1 14 = .ok (.lconst 0, 1) := by decide +kernel
theorem dX6_odds_15 : decode mX6_odds.2.1 15 = .ok (.lconst 1, 1) := by decide +kernel
theorem dX6_odds_16 : decode mX6_odds.2.1 16 = .ok (.invokestatic 51, 3) := by decide +kernel
theorem dX6_odds_19 : decode mX6_odds.2.1 19 = .ok (.ifCond .ne 11, 3) := by decide +kernel
theorem dX6_odds_22 : decode mX6_odds.2.1 22 = .ok (.aload_n 0, 1) := by decide +kernel
theorem dX6_odds_23 : decode mX6_odds.2.1 23 = .ok (.ldc 43, 2) := by decide +kernel
theorem dX6_odds_25 : decode mX6_odds.2.1 25 = .ok (.invokevirtual 45, 3) := by decide +kernel
theorem dX6_odds_28 : decode mX6_odds.2.1 28 = .ok (.i2l, 1) := by decide +kernel
theorem dX6_odds_29 : decode mX6_odds.2.1 29 = .ok (.lreturn, 1) := by decide +kernel
theorem dX6_odds_30 : decode mX6_odds.2.1 30 = .ok (.lconst 1, 1) := by decide +kernel
theorem dX6_odds_31 : decode mX6_odds.2.1 31 = .ok (.lstore_n 3, 1) := by decide +kernel
theorem dX6_odds_32 : decode mX6_odds.2.1 32 = .ok (.iconst 0, 1) := by decide +kernel
theorem dX6_odds_33 : decode mX6_odds.2.1 33 = .ok (.istore 5, 2) := by decide +kernel
theorem dX6_odds_35 : decode mX6_odds.2.1 35 = .ok (.iload 5, 2) := by decide +kernel
theorem dX6_odds_37 : decode mX6_odds.2.1 37 = .ok (.iload_n 1, 1) := by decide +kernel
theorem dX6_odds_38 : decode mX6_odds.2.1 38 = .ok (.if_icmp .ge 25, 3) := by decide +kernel
theorem dX6_odds_41 : decode mX6_odds.2.1 41 = .ok (.lload_n 3, 1) := by decide +kernel
theorem dX6_odds_42 : decode mX6_odds.2.1 42 = .ok (.iload_n 2, 1) := by decide +kernel
theorem dX6_odds_43 : decode mX6_odds.2.1 43 = .ok (.ifCond .ne 9, 3) := by decide +kernel
theorem dX6_odds_46 : decode mX6_odds.2.1 46 = .ok (.ldc2_w 210, 3) := by decide +kernel
theorem dX6_odds_49 : decode mX6_odds.2.1 49 = .ok (.goto 6, 3) := by decide +kernel
theorem dX6_odds_52 : decode mX6_odds.2.1 52 = .ok (.ldc2_w 212, 3) := by decide +kernel
theorem dX6_odds_55 : decode mX6_odds.2.1 55 = .ok (.lmul, 1) := by decide +kernel
theorem dX6_odds_56 : decode mX6_odds.2.1 56 = .ok (.lstore_n 3, 1) := by decide +kernel
theorem dX6_odds_57 : decode mX6_odds.2.1 57 = .ok (.iinc 5 1, 3) := by decide +kernel
theorem dX6_odds_60 : decode mX6_odds.2.1 60 = .ok (.goto (-25), 3) := by decide +kernel
theorem dX6_odds_63 : decode mX6_odds.2.1 63 = .ok (.lload_n 3, 1) := by decide +kernel
theorem dX6_odds_64 : decode mX6_odds.2.1 64 = .ok (.lreturn, 1) := by decide +kernel
theorem dX6_seed_0 : decode mX6_seed.2.1 0 = .ok (.aload_n 0, 1) := by decide +kernel
theorem dX6_seed_1 : decode mX6_seed.2.1 1 = .ok (.iconst 2, 1) := by decide +kernel
theorem dX6_seed_2 : decode mX6_seed.2.1 2 = .ok (.iload_n 1, 1) := by decide +kernel
theorem dX6_seed_3 : decode mX6_seed.2.1 3 = .ok (.invokevirtual 57, 3) := by decide +kernel
theorem dX6_seed_6 : decode mX6_seed.2.1 6 = .ok (.ireturn, 1) := by decide +kernel
theorem dX6_feed_0 : decode mX6_feed.2.1 0 = .ok (.iload_n 2, 1) := by decide +kernel
theorem dX6_feed_1 : decode mX6_feed.2.1 1 = .ok (.i2l, 1) := by decide +kernel
theorem dX6_feed_2 : decode mX6_feed.2.1 2 = .ok (.lconst 1, 1) := by decide +kernel
theorem dX6_feed_3 : decode mX6_feed.2.1 3 = .ok (.ldc2_w 166, 3) := by decide +kernel
theorem dX6_feed_6 : decode mX6_feed.2.1 6 = .ok (.invokestatic 51, 3) := by decide +kernel
theorem dX6_feed_9 : decode mX6_feed.2.1 9 = .ok (.ifCond .ne 10, 3) := by decide +kernel
theorem dX6_feed_12 : decode mX6_feed.2.1 12 = .ok (.aload_n 0, 1) := by decide +kernel
theorem dX6_feed_13 : decode mX6_feed.2.1 13 = .ok (.ldc 43, 2) := by decide +kernel
theorem dX6_feed_15 : decode mX6_feed.2.1 15 = .ok (.invokevirtual 45, 3) := by decide +kernel
theorem dX6_feed_18 : decode mX6_feed.2.1 18 = .ok (.ireturn, 1) := by decide +kernel
theorem dX6_feed_19 : decode mX6_feed.2.1 19 = .ok (.aload_n 0, 1) := by decide +kernel
theorem dX6_feed_20 : decode mX6_feed.2.1 20 = .ok (.getfield 214, 3) := by decide +kernel
theorem dX6_feed_23 : decode mX6_feed.2.1 23 = .ok (.iload_n 2, 1) := by decide +kernel
theorem dX6_feed_24 : decode mX6_feed.2.1 24 = .ok (.iadd, 1) := by decide +kernel
theorem dX6_feed_25 : decode mX6_feed.2.1 25 = .ok (.bipush 120, 2) := by decide +kernel
theorem dX6_feed_27 : decode mX6_feed.2.1 27 = .ok (.if_icmp .le 10, 3) := by decide +kernel
theorem dX6_feed_30 : decode mX6_feed.2.1 30 = .ok (.aload_n 0, 1) := by decide +kernel
theorem dX6_feed_31 : decode mX6_feed.2.1 31 = .ok (.ldc 65, 2) := by decide +kernel
theorem dX6_feed_33 : decode mX6_feed.2.1 33 = .ok (.invokevirtual 45, 3) := by decide +kernel
theorem dX6_feed_36 : decode mX6_feed.2.1 36 = .ok (.ireturn, 1) := by decide +kernel
theorem dX6_feed_37 : decode mX6_feed.2.1 37 = .ok (.iload_n 2, 1) := by decide +kernel
theorem dX6_feed_38 : decode mX6_feed.2.1 38 = .ok (.iconst 1, 1) := by decide +kernel
theorem dX6_feed_39 : decode mX6_feed.2.1 39 = .ok (.isub, 1) := by decide +kernel
theorem dX6_feed_40 : decode mX6_feed.2.1 40 = .ok (.istore_n 3, 1) := by decide +kernel
theorem dX6_feed_41 : decode mX6_feed.2.1 41 = .ok (.iload_n 3, 1) := by decide +kernel
theorem dX6_feed_42 : decode mX6_feed.2.1 42 = .ok (.ifCond .lt 38, 3) := by decide +kernel
theorem dX6_feed_45 : decode mX6_feed.2.1 45 = .ok (.aload_n 0, 1) := by decide +kernel
theorem dX6_feed_46 : decode mX6_feed.2.1 46 = .ok (.getfield 25, 3) := by decide +kernel
theorem dX6_feed_49 : decode mX6_feed.2.1 49 = .ok (.aload_n 0, 1) := by decide +kernel
theorem dX6_feed_50 : decode mX6_feed.2.1 50 = .ok (.getfield 214, 3) := by decide +kernel
theorem dX6_feed_53 : decode mX6_feed.2.1 53 = .ok (.iload_n 1, 1) := by decide +kernel
theorem dX6_feed_54 : decode mX6_feed.2.1 54 = .ok (.bipush 8, 2) := by decide +kernel
theorem dX6_feed_56 : decode mX6_feed.2.1 56 = .ok (.iload_n 3, 1) := by decide +kernel
theorem dX6_feed_57 : decode mX6_feed.2.1 57 = .ok (.imul, 1) := by decide +kernel
theorem dX6_feed_58 : decode mX6_feed.2.1 58 = .ok (.ishr, 1) := by decide +kernel
theorem dX6_feed_59 : decode mX6_feed.2.1 59 = .ok (.sipush 255, 3) := by decide +kernel
theorem dX6_feed_62 : decode mX6_feed.2.1 62 = .ok (.iand, 1) := by decide +kernel
theorem dX6_feed_63 : decode mX6_feed.2.1 63 = .ok (.iastore, 1) := by decide +kernel
theorem dX6_feed_64 : decode mX6_feed.2.1 64 = .ok (.aload_n 0, 1) := by decide +kernel
theorem dX6_feed_65 : decode mX6_feed.2.1 65 = .ok (.dup, 1) := by decide +kernel
theorem dX6_feed_66 : decode mX6_feed.2.1 66 = .ok (.getfield 214, 3) := by decide +kernel
theorem dX6_feed_69 : decode mX6_feed.2.1 69 = .ok (.iconst 1, 1) := by decide +kernel
theorem dX6_feed_70 : decode mX6_feed.2.1 70 = .ok (.iadd, 1) := by decide +kernel
theorem dX6_feed_71 : decode mX6_feed.2.1 71 = .ok (.putfield 214, 3) := by decide +kernel
theorem dX6_feed_74 : decode mX6_feed.2.1 74 = .ok (.iinc 3 (-1), 3) := by decide +kernel
theorem dX6_feed_77 : decode mX6_feed.2.1 77 = .ok (.goto (-36), 3) := by decide +kernel
theorem dX6_feed_80 : decode mX6_feed.2.1 80 = .ok (.aload_n 0, 1) := by decide +kernel
theorem dX6_feed_81 : decode mX6_feed.2.1 81 = .ok (.getfield 214, 3) := by decide +kernel
theorem dX6_feed_84 : decode mX6_feed.2.1 84 = .ok (.ireturn, 1) := by decide +kernel
theorem dX6_wipe_0 : decode mX6_wipe.2.1 0 = .ok (.aload_n 0, 1) := by decide +kernel
theorem dX6_wipe_1 : decode mX6_wipe.2.1 1 = .ok (.getfield 214, 3) := by decide +kernel
theorem dX6_wipe_4 : decode mX6_wipe.2.1 4 = .ok (.istore_n 1, 1) := by decide +kernel
theorem dX6_wipe_5 : decode mX6_wipe.2.1 5 = .ok (.aload_n 0, 1) := by decide +kernel
theorem dX6_wipe_6 : decode mX6_wipe.2.1 6 = .ok (.iconst 0, 1) := by decide +kernel
theorem dX6_wipe_7 : decode mX6_wipe.2.1 7 = .ok (.putfield 214, 3) := by decide +kernel
theorem dX6_wipe_10 : decode mX6_wipe.2.1 10 = .ok (.iload_n 1, 1) := by decide +kernel
theorem dX6_wipe_11 : decode mX6_wipe.2.1 11 = .ok (.ireturn, 1) := by decide +kernel
theorem dX6_isLetter_0 : decode mX6_isLetter.2.1 0 = .ok (.iload_n 0, 1) := by decide +kernel
theorem dX6_isLetter_1 : decode mX6_isLetter.2.1 1 = .ok (.bipush 97, 2) := by decide +kernel
theorem dX6_isLetter_3 : decode mX6_isLetter.2.1 3 = .ok (.if_icmp .lt 13, 3) := by decide +kernel
theorem dX6_isLetter_6 : decode mX6_isLetter.2.1 6 = .ok (.iload_n 0, 1) := by decide +kernel
theorem dX6_isLetter_7 : decode mX6_isLetter.2.1 7 = .ok (.bipush 122, 2) := by decide +kernel
theorem dX6_isLetter_9 : decode mX6_isLetter.2.1 9 = .ok (.if_icmp .gt 7, 3) := by decide +kernel
theorem dX6_isLetter_12 : decode mX6_isLetter.2.1 12 = .ok (.iconst 1, 1) := by decide +kernel
theorem dX6_isLetter_13 : decode mX6_isLetter.2.1 13 = .ok (.goto 4, 3) := by decide +kernel
theorem dX6_isLetter_16 : decode mX6_isLetter.2.1 16 = .ok (.iconst 0, 1) := by decide +kernel
theorem dX6_isLetter_17 : decode mX6_isLetter.2.1 17 = .ok (.ireturn, 1) := by decide +kernel
theorem dX6_isDigit_0 : decode mX6_isDigit.2.1 0 = .ok (.iload_n 0, 1) := by decide +kernel
theorem dX6_isDigit_1 : decode mX6_isDigit.2.1 1 = .ok (.bipush 48, 2) := by decide +kernel
theorem dX6_isDigit_3 : decode mX6_isDigit.2.1 3 = .ok (.if_icmp .lt 13, 3) := by decide +kernel
theorem dX6_isDigit_6 : decode mX6_isDigit.2.1 6 = .ok (.iload_n 0, 1) := by decide +kernel
theorem dX6_isDigit_7 : decode mX6_isDigit.2.1 7 = .ok (.bipush 57, 2) := by decide +kernel
theorem dX6_isDigit_9 : decode mX6_isDigit.2.1 9 = .ok (.if_icmp .gt 7, 3) := by decide +kernel
theorem dX6_isDigit_12 : decode mX6_isDigit.2.1 12 = .ok (.iconst 1, 1) := by decide +kernel
theorem dX6_isDigit_13 : decode mX6_isDigit.2.1 13 = .ok (.goto 4, 3) := by decide +kernel
theorem dX6_isDigit_16 : decode mX6_isDigit.2.1 16 = .ok (.iconst 0, 1) := by decide +kernel
theorem dX6_isDigit_17 : decode mX6_isDigit.2.1 17 = .ok (.ireturn, 1) := by decide +kernel
theorem dX6_byteAt_0 : decode mX6_byteAt.2.1 0 = .ok (.iload_n 1, 1) := by decide +kernel
theorem dX6_byteAt_1 : decode mX6_byteAt.2.1 1 = .ok (.aload_n 0, 1) := by decide +kernel
theorem dX6_byteAt_2 : decode mX6_byteAt.2.1 2 = .ok (.getfield 214, 3) := by decide +kernel
theorem dX6_byteAt_5 : decode mX6_byteAt.2.1 5 = .ok (.if_icmp .ge 12, 3) := by decide +kernel
theorem dX6_byteAt_8 : decode mX6_byteAt.2.1 8 = .ok (.aload_n 0, 1) := by decide +kernel
theorem dX6_byteAt_9 : decode mX6_byteAt.2.1 9 = .ok (.getfield 25, 3) := by decide +kernel
theorem dX6_byteAt_12 : decode mX6_byteAt.2.1 12 = .ok (.iload_n 1, 1) := by decide +kernel
theorem dX6_byteAt_13 : decode mX6_byteAt.2.1 13 = .ok (.iaload, 1) := by decide +kernel
theorem dX6_byteAt_14 : decode mX6_byteAt.2.1 14 = .ok (.goto 4, 3) := by decide +kernel
theorem dX6_byteAt_17 : decode mX6_byteAt.2.1 17 = .ok (.iconst (-1), 1) := by decide +kernel
theorem dX6_byteAt_18 : decode mX6_byteAt.2.1 18 = .ok (.ireturn, 1) := by decide +kernel
theorem dX6_nextToken_0 : decode mX6_nextToken.2.1 0 = .ok (.aload_n 0, 1) := by decide +kernel
theorem dX6_nextToken_1 : decode mX6_nextToken.2.1 1 = .ok (.aload_n 0, 1) := by decide +kernel
theorem dX6_nextToken_2 : decode mX6_nextToken.2.1 2 = .ok (.getfield 217, 3) := by decide +kernel
theorem dX6_nextToken_5 : decode mX6_nextToken.2.1 5 = .ok (.putfield 220, 3) := by decide +kernel
theorem dX6_nextToken_8 : decode mX6_nextToken.2.1 8 = .ok (.aload_n 0, 1) := by decide +kernel
theorem dX6_nextToken_9 : decode mX6_nextToken.2.1 9 = .ok (.aload_n 0, 1) := by decide +kernel
theorem dX6_nextToken_10 : decode mX6_nextToken.2.1 10 = .ok (.getfield 220, 3) := by decide +kernel
theorem dX6_nextToken_13 : decode mX6_nextToken.2.1 13 = .ok (.invokevirtual 223, 3) := by decide +kernel
theorem dX6_nextToken_16 : decode mX6_nextToken.2.1 16 = .ok (.bipush 32, 2) := by decide +kernel
theorem dX6_nextToken_18 : decode mX6_nextToken.2.1 18 = .ok (.if_icmp .ne 16, 3) := by decide +kernel
theorem dX6_nextToken_21 : decode mX6_nextToken.2.1 21 = .ok (.aload_n 0, 1) := by decide +kernel
theorem dX6_nextToken_22 : decode mX6_nextToken.2.1 22 = .ok (.dup, 1) := by decide +kernel
theorem dX6_nextToken_23 : decode mX6_nextToken.2.1 23 = .ok (.getfield 220, 3) := by decide +kernel
theorem dX6_nextToken_26 : decode mX6_nextToken.2.1 26 = .ok (.iconst 1, 1) := by decide +kernel
theorem dX6_nextToken_27 : decode mX6_nextToken.2.1 27 = .ok (.iadd, 1) := by decide +kernel
theorem dX6_nextToken_28 : decode mX6_nextToken.2.1 28 = .ok (.putfield 220, 3) := by decide +kernel
theorem dX6_nextToken_31 : decode mX6_nextToken.2.1 31 = .ok (.goto (-23), 3) := by decide +kernel
theorem dX6_nextToken_34 : decode mX6_nextToken.2.1 34 = .ok (.aload_n 0, 1) := by decide +kernel
theorem dX6_nextToken_35 : decode mX6_nextToken.2.1 35 = .ok (.aload_n 0, 1) := by decide +kernel
theorem dX6_nextToken_36 : decode mX6_nextToken.2.1 36 = .ok (.getfield 220, 3) := by decide +kernel
theorem dX6_nextToken_39 : decode mX6_nextToken.2.1 39 = .ok (.putfield 217, 3) := by decide +kernel
theorem dX6_nextToken_42 : decode mX6_nextToken.2.1 42 = .ok (.aload_n 0, 1) := by decide +kernel
theorem dX6_nextToken_43 : decode mX6_nextToken.2.1 43 = .ok (.aload_n 0, 1) := by decide +kernel
theorem dX6_nextToken_44 : decode mX6_nextToken.2.1 44 = .ok (.getfield 220, 3) := by decide +kernel
theorem dX6_nextToken_47 : decode mX6_nextToken.2.1 47 = .ok (.invokevirtual 223, 3) := by decide +kernel
theorem dX6_nextToken_50 : decode mX6_nextToken.2.1 50 = .ok (.istore_n 1, 1) := by decide +kernel
theorem dX6_nextToken_51 : decode mX6_nextToken.2.1 51 = .ok (.aload_n 0, 1) := by decide +kernel
theorem dX6_nextToken_52 : decode mX6_nextToken.2.1 52 = .ok (.iload_n 1, 1) := by decide +kernel
theorem dX6_nextToken_53 : decode mX6_nextToken.2.1 53 = .ok (.ifCond .ge 7, 3) := by decide +kernel
theorem dX6_nextToken_56 : decode mX6_nextToken.2.1 56 = .ok (.iconst 0, 1) := by decide +kernel
theorem dX6_nextToken_57 : decode mX6_nextToken.2.1 57 = .ok (.goto 46, 3) := by decide +kernel
theorem dX6_nextToken_60 : decode mX6_nextToken.2.1 60 = .ok (.iload_n 1, 1) := by decide +kernel
theorem dX6_nextToken_61 : decode mX6_nextToken.2.1 61 = .ok (.invokestatic 226, 3) := by decide +kernel
theorem dX6_nextToken_64 : decode mX6_nextToken.2.1 64 = .ok (.ifCond .eq 7, 3) := by decide +kernel
theorem dX6_nextToken_67 : decode mX6_nextToken.2.1 67 = .ok (.iconst 1, 1) := by decide +kernel
theorem dX6_nextToken_68 : decode mX6_nextToken.2.1 68 = .ok (.goto 35, 3) := by decide +kernel
theorem dX6_nextToken_71 : decode mX6_nextToken.2.1 71 = .ok (.iload_n 1, 1) := by decide +kernel
theorem dX6_nextToken_72 : decode mX6_nextToken.2.1 72 = .ok (.invokestatic 229, 3) := by decide +kernel
theorem dX6_nextToken_75 : decode mX6_nextToken.2.1 75 = .ok (.ifCond .eq 7, 3) := by decide +kernel
theorem dX6_nextToken_78 : decode mX6_nextToken.2.1 78 = .ok (.iconst 2, 1) := by decide +kernel
theorem dX6_nextToken_79 : decode mX6_nextToken.2.1 79 = .ok (.goto 24, 3) := by decide +kernel
theorem dX6_nextToken_82 : decode mX6_nextToken.2.1 82 = .ok (.iload_n 1, 1) := by decide +kernel
theorem dX6_nextToken_83 : decode mX6_nextToken.2.1 83 = .ok (.bipush 59, 2) := by decide +kernel
theorem dX6_nextToken_85 : decode mX6_nextToken.2.1 85 = .ok (.if_icmp .ne 7, 3) := by decide +kernel
theorem dX6_nextToken_88 : decode mX6_nextToken.2.1 88 = .ok (.iconst 3, 1) := by decide +kernel
theorem dX6_nextToken_89 : decode mX6_nextToken.2.1 89 = .ok (.goto 14, 3) := by decide +kernel
theorem dX6_nextToken_92 : decode mX6_nextToken.2.1 92 = .ok (.iload_n 1, 1) := by decide +kernel
theorem dX6_nextToken_93 : decode mX6_nextToken.2.1 93 = .ok (.bipush 45, 2) := by decide +kernel
theorem dX6_nextToken_95 : decode mX6_nextToken.2.1 95 = .ok (.if_icmp .ne 7, 3) := by decide +kernel
theorem dX6_nextToken_98 : decode mX6_nextToken.2.1 98 = .ok (.iconst 5, 1) := by decide +kernel
theorem dX6_nextToken_99 : decode mX6_nextToken.2.1 99 = .ok (.goto 4, 3) := by decide +kernel
theorem dX6_nextToken_102 : decode mX6_nextToken.2.1 102 = .ok (.iconst 4, 1) := by decide +kernel
theorem dX6_nextToken_103 : decode mX6_nextToken.2.1 103 = .ok (.putfield 232, 3) := by decide +kernel
theorem dX6_nextToken_106 : decode mX6_nextToken.2.1 106 = .ok (.aload_n 0, 1) := by decide +kernel
theorem dX6_nextToken_107 : decode mX6_nextToken.2.1 107 = .ok (.iconst 0, 1) := by decide +kernel
theorem dX6_nextToken_108 : decode mX6_nextToken.2.1 108 = .ok (.putfield 235, 3) := by decide +kernel
theorem dX6_nextToken_111 : decode mX6_nextToken.2.1 111 = .ok (.aload_n 0, 1) := by decide +kernel
theorem dX6_nextToken_112 : decode mX6_nextToken.2.1 112 = .ok (.getfield 232, 3) := by decide +kernel
theorem dX6_nextToken_115 : decode mX6_nextToken.2.1 115 = .ok (.iconst 1, 1) := by decide +kernel
theorem dX6_nextToken_116 : decode mX6_nextToken.2.1 116 = .ok (.if_icmp .ne 30, 3) := by decide +kernel
theorem dX6_nextToken_119 : decode mX6_nextToken.2.1 119 = .ok (.aload_n 0, 1) := by decide +kernel
theorem dX6_nextToken_120 : decode mX6_nextToken.2.1 120 = .ok (.aload_n 0, 1) := by decide +kernel
theorem dX6_nextToken_121 : decode mX6_nextToken.2.1 121 = .ok (.getfield 217, 3) := by decide +kernel
theorem dX6_nextToken_124 : decode mX6_nextToken.2.1 124 = .ok (.invokevirtual 223, 3) := by decide +kernel
theorem dX6_nextToken_127 : decode mX6_nextToken.2.1 127 = .ok (.invokestatic 226, 3) := by decide +kernel
theorem dX6_nextToken_130 : decode mX6_nextToken.2.1 130 = .ok (.ifCond .eq 16, 3) := by decide +kernel
theorem dX6_nextToken_133 : decode mX6_nextToken.2.1 133 = .ok (.aload_n 0, 1) := by decide +kernel
theorem dX6_nextToken_134 : decode mX6_nextToken.2.1 134 = .ok (.dup, 1) := by decide +kernel
theorem dX6_nextToken_135 : decode mX6_nextToken.2.1 135 = .ok (.getfield 217, 3) := by decide +kernel
theorem dX6_nextToken_138 : decode mX6_nextToken.2.1 138 = .ok (.iconst 1, 1) := by decide +kernel
theorem dX6_nextToken_139 : decode mX6_nextToken.2.1 139 = .ok (.iadd, 1) := by decide +kernel
theorem dX6_nextToken_140 : decode mX6_nextToken.2.1 140 = .ok (.putfield 217, 3) := by decide +kernel
theorem dX6_nextToken_143 : decode mX6_nextToken.2.1 143 = .ok (.goto (-32), 3) := by decide +kernel
theorem dX6_nextToken_146 : decode mX6_nextToken.2.1 146 = .ok (.aload_n 0, 1) := by decide +kernel
theorem dX6_nextToken_147 : decode mX6_nextToken.2.1 147 = .ok (.getfield 232, 3) := by decide +kernel
theorem dX6_nextToken_150 : decode mX6_nextToken.2.1 150 = .ok (.iconst 2, 1) := by decide +kernel
theorem dX6_nextToken_151 : decode mX6_nextToken.2.1 151 = .ok (.if_icmp .ne 70, 3) := by decide +kernel
theorem dX6_nextToken_154 : decode mX6_nextToken.2.1 154 = .ok (.aload_n 0, 1) := by decide +kernel
theorem dX6_nextToken_155 : decode mX6_nextToken.2.1 155 = .ok (.aload_n 0, 1) := by decide +kernel
theorem dX6_nextToken_156 : decode mX6_nextToken.2.1 156 = .ok (.getfield 217, 3) := by decide +kernel
theorem dX6_nextToken_159 : decode mX6_nextToken.2.1 159 = .ok (.invokevirtual 223, 3) := by decide +kernel
theorem dX6_nextToken_162 : decode mX6_nextToken.2.1 162 = .ok (.invokestatic 229, 3) := by decide +kernel
theorem dX6_nextToken_165 : decode mX6_nextToken.2.1 165 = .ok (.ifCond .eq 56, 3) := by decide +kernel
theorem dX6_nextToken_168 : decode mX6_nextToken.2.1 168 = .ok (.aload_n 0, 1) := by decide +kernel
theorem dX6_nextToken_169 : decode mX6_nextToken.2.1 169 = .ok (.aload_n 0, 1) := by decide +kernel
theorem dX6_nextToken_170 : decode mX6_nextToken.2.1 170 = .ok (.getfield 235, 3) := by decide +kernel
theorem dX6_nextToken_173 : decode mX6_nextToken.2.1 173 = .ok (.sipush 999, 3) := by decide +kernel
theorem dX6_nextToken_176 : decode mX6_nextToken.2.1 176 = .ok (.if_icmp .le 10, 3) := by decide +kernel
theorem dX6_nextToken_179 : decode mX6_nextToken.2.1 179 = .ok (.aload_n 0, 1) := by decide +kernel
theorem dX6_nextToken_180 : decode mX6_nextToken.2.1 180 = .ok (.getfield 235, 3) := by decide +kernel
theorem dX6_nextToken_183 : decode mX6_nextToken.2.1 183 = .ok (.goto 22, 3) := by decide +kernel
theorem dX6_nextToken_186 : decode mX6_nextToken.2.1 186 = .ok (.bipush 10, 2) := by decide +kernel
theorem dX6_nextToken_188 : decode mX6_nextToken.2.1 188 = .ok (.aload_n 0, 1) := by decide +kernel
theorem dX6_nextToken_189 : decode mX6_nextToken.2.1 189 = .ok (.getfield 235, 3) := by decide +kernel
theorem dX6_nextToken_192 : decode mX6_nextToken.2.1 192 = .ok (.imul, 1) := by decide +kernel
theorem dX6_nextToken_193 : decode mX6_nextToken.2.1 193 = .ok (.aload_n 0, 1) := by decide +kernel
theorem dX6_nextToken_194 : decode mX6_nextToken.2.1 194 = .ok (.aload_n 0, 1) := by decide +kernel
theorem dX6_nextToken_195 : decode mX6_nextToken.2.1 195 = .ok (.getfield 217, 3) := by decide +kernel
theorem dX6_nextToken_198 : decode mX6_nextToken.2.1 198 = .ok (.invokevirtual 223, 3) := by decide +kernel
theorem dX6_nextToken_201 : decode mX6_nextToken.2.1 201 = .ok (.iadd, 1) := by decide +kernel
theorem dX6_nextToken_202 : decode mX6_nextToken.2.1 202 = .ok (.bipush 48, 2) := by decide +kernel
theorem dX6_nextToken_204 : decode mX6_nextToken.2.1 204 = .ok (.isub, 1) := by decide +kernel
theorem dX6_nextToken_205 : decode mX6_nextToken.2.1 205 = .ok (.putfield 235, 3) := by decide +kernel
theorem dX6_nextToken_208 : decode mX6_nextToken.2.1 208 = .ok (.aload_n 0, 1) := by decide +kernel
theorem dX6_nextToken_209 : decode mX6_nextToken.2.1 209 = .ok (.dup, 1) := by decide +kernel
theorem dX6_nextToken_210 : decode mX6_nextToken.2.1 210 = .ok (.getfield 217, 3) := by decide +kernel
theorem dX6_nextToken_213 : decode mX6_nextToken.2.1 213 = .ok (.iconst 1, 1) := by decide +kernel
theorem dX6_nextToken_214 : decode mX6_nextToken.2.1 214 = .ok (.iadd, 1) := by decide +kernel
theorem dX6_nextToken_215 : decode mX6_nextToken.2.1 215 = .ok (.putfield 217, 3) := by decide +kernel
theorem dX6_nextToken_218 : decode mX6_nextToken.2.1 218 = .ok (.goto (-72), 3) := by decide +kernel
theorem dX6_nextToken_221 : decode mX6_nextToken.2.1 221 = .ok (.aload_n 0, 1) := by decide +kernel
theorem dX6_nextToken_222 : decode mX6_nextToken.2.1 222 = .ok (.dup, 1) := by decide +kernel
theorem dX6_nextToken_223 : decode mX6_nextToken.2.1 223 = .ok (.getfield 217, 3) := by decide +kernel
theorem dX6_nextToken_226 : decode mX6_nextToken.2.1 226 = .ok (.aload_n 0, 1) := by decide +kernel
theorem dX6_nextToken_227 : decode mX6_nextToken.2.1 227 = .ok (.getfield 232, 3) := by decide +kernel
theorem dX6_nextToken_230 : decode mX6_nextToken.2.1 230 = .ok (.iconst 2, 1) := by decide +kernel
theorem dX6_nextToken_231 : decode mX6_nextToken.2.1 231 = .ok (.if_icmp .le 7, 3) := by decide +kernel
theorem dX6_nextToken_234 : decode mX6_nextToken.2.1 234 = .ok (.iconst 1, 1) := by decide +kernel
theorem dX6_nextToken_235 : decode mX6_nextToken.2.1 235 = .ok (.goto 4, 3) := by decide +kernel
theorem dX6_nextToken_238 : decode mX6_nextToken.2.1 238 = .ok (.iconst 0, 1) := by decide +kernel
theorem dX6_nextToken_239 : decode mX6_nextToken.2.1 239 = .ok (.iadd, 1) := by decide +kernel
theorem dX6_nextToken_240 : decode mX6_nextToken.2.1 240 = .ok (.putfield 217, 3) := by decide +kernel
theorem dX6_nextToken_243 : decode mX6_nextToken.2.1 243 = .ok (.return_, 1) := by decide +kernel
theorem dX6_has3_0 : decode mX6_has3.2.1 0 = .ok (.aload_n 0, 1) := by decide +kernel
theorem dX6_has3_1 : decode mX6_has3.2.1 1 = .ok (.aload_n 0, 1) := by decide +kernel
theorem dX6_has3_2 : decode mX6_has3.2.1 2 = .ok (.getfield 220, 3) := by decide +kernel
theorem dX6_has3_5 : decode mX6_has3.2.1 5 = .ok (.iload_n 1, 1) := by decide +kernel
theorem dX6_has3_6 : decode mX6_has3.2.1 6 = .ok (.iadd, 1) := by decide +kernel
theorem dX6_has3_7 : decode mX6_has3.2.1 7 = .ok (.invokevirtual 223, 3) := by decide +kernel
theorem dX6_has3_10 : decode mX6_has3.2.1 10 = .ok (.iload_n 2, 1) := by decide +kernel
theorem dX6_has3_11 : decode mX6_has3.2.1 11 = .ok (.if_icmp .ne 40, 3) := by decide +kernel
theorem dX6_has3_14 : decode mX6_has3.2.1 14 = .ok (.aload_n 0, 1) := by decide +kernel
theorem dX6_has3_15 : decode mX6_has3.2.1 15 = .ok (.aload_n 0, 1) := by decide +kernel
theorem dX6_has3_16 : decode mX6_has3.2.1 16 = .ok (.getfield 220, 3) := by decide +kernel
theorem dX6_has3_19 : decode mX6_has3.2.1 19 = .ok (.iload_n 1, 1) := by decide +kernel
theorem dX6_has3_20 : decode mX6_has3.2.1 20 = .ok (.iadd, 1) := by decide +kernel
theorem dX6_has3_21 : decode mX6_has3.2.1 21 = .ok (.iconst 1, 1) := by decide +kernel
theorem dX6_has3_22 : decode mX6_has3.2.1 22 = .ok (.iadd, 1) := by decide +kernel
theorem dX6_has3_23 : decode mX6_has3.2.1 23 = .ok (.invokevirtual 223, 3) := by decide +kernel
theorem dX6_has3_26 : decode mX6_has3.2.1 26 = .ok (.iload_n 3, 1) := by decide +kernel
theorem dX6_has3_27 : decode mX6_has3.2.1 27 = .ok (.if_icmp .ne 24, 3) := by decide +kernel
theorem dX6_has3_30 : decode mX6_has3.2.1 30 = .ok (.aload_n 0, 1) := by decide +kernel
theorem dX6_has3_31 : decode mX6_has3.2.1 31 = .ok (.aload_n 0, 1) := by decide +kernel
theorem dX6_has3_32 : decode mX6_has3.2.1 32 = .ok (.getfield 220, 3) := by decide +kernel
theorem dX6_has3_35 : decode mX6_has3.2.1 35 = .ok (.iload_n 1, 1) := by decide +kernel
theorem dX6_has3_36 : decode mX6_has3.2.1 36 = .ok (.iadd, 1) := by decide +kernel
theorem dX6_has3_37 : decode mX6_has3.2.1 37 = .ok (.iconst 2, 1) := by decide +kernel
theorem dX6_has3_38 : decode mX6_has3.2.1 38 = .ok (.iadd, 1) := by decide +kernel
theorem dX6_has3_39 : decode mX6_has3.2.1 39 = .ok (.invokevirtual 223, 3) := by decide +kernel
theorem dX6_has3_42 : decode mX6_has3.2.1 42 = .ok (.iload 4, 2) := by decide +kernel
theorem dX6_has3_44 : decode mX6_has3.2.1 44 = .ok (.if_icmp .ne 7, 3) := by decide +kernel
theorem dX6_has3_47 : decode mX6_has3.2.1 47 = .ok (.iconst 1, 1) := by decide +kernel
theorem dX6_has3_48 : decode mX6_has3.2.1 48 = .ok (.goto 4, 3) := by decide +kernel
theorem dX6_has3_51 : decode mX6_has3.2.1 51 = .ok (.iconst 0, 1) := by decide +kernel
theorem dX6_has3_52 : decode mX6_has3.2.1 52 = .ok (.ireturn, 1) := by decide +kernel
theorem dX6_isWord_0 : decode mX6_isWord.2.1 0 = .ok (.aload_n 0, 1) := by decide +kernel
theorem dX6_isWord_1 : decode mX6_isWord.2.1 1 = .ok (.getfield 232, 3) := by decide +kernel
theorem dX6_isWord_4 : decode mX6_isWord.2.1 4 = .ok (.iconst 1, 1) := by decide +kernel
theorem dX6_isWord_5 : decode mX6_isWord.2.1 5 = .ok (.if_icmp .ne 20, 3) := by decide +kernel
theorem dX6_isWord_8 : decode mX6_isWord.2.1 8 = .ok (.aload_n 0, 1) := by decide +kernel
theorem dX6_isWord_9 : decode mX6_isWord.2.1 9 = .ok (.getfield 217, 3) := by decide +kernel
theorem dX6_isWord_12 : decode mX6_isWord.2.1 12 = .ok (.aload_n 0, 1) := by decide +kernel
theorem dX6_isWord_13 : decode mX6_isWord.2.1 13 = .ok (.getfield 220, 3) := by decide +kernel
theorem dX6_isWord_16 : decode mX6_isWord.2.1 16 = .ok (.isub, 1) := by decide +kernel
theorem dX6_isWord_17 : decode mX6_isWord.2.1 17 = .ok (.iload_n 1, 1) := by decide +kernel
theorem dX6_isWord_18 : decode mX6_isWord.2.1 18 = .ok (.if_icmp .ne 7, 3) := by decide +kernel
theorem dX6_isWord_21 : decode mX6_isWord.2.1 21 = .ok (.iconst 1, 1) := by decide +kernel
theorem dX6_isWord_22 : decode mX6_isWord.2.1 22 = .ok (.goto 4, 3) := by decide +kernel
theorem dX6_isWord_25 : decode mX6_isWord.2.1 25 = .ok (.iconst 0, 1) := by decide +kernel
theorem dX6_isWord_26 : decode mX6_isWord.2.1 26 = .ok (.ireturn, 1) := by decide +kernel
theorem dX6_fails_0 : decode mX6_fails.2.1 0 = .ok (.aload_n 0, 1) := by decide +kernel
theorem dX6_fails_1 : decode mX6_fails.2.1 1 = .ok (.aload_n 0, 1) := by decide +kernel
theorem dX6_fails_2 : decode mX6_fails.2.1 2 = .ok (.getfield 220, 3) := by decide +kernel
theorem dX6_fails_5 : decode mX6_fails.2.1 5 = .ok (.putfield 238, 3) := by decide +kernel
theorem dX6_fails_8 : decode mX6_fails.2.1 8 = .ok (.iconst 0, 1) := by decide +kernel
theorem dX6_fails_9 : decode mX6_fails.2.1 9 = .ok (.ireturn, 1) := by decide +kernel
theorem dX6_isFour_0 : decode mX6_isFour.2.1 0 = .ok (.aload_n 0, 1) := by decide +kernel
theorem dX6_isFour_1 : decode mX6_isFour.2.1 1 = .ok (.iconst 4, 1) := by decide +kernel
theorem dX6_isFour_2 : decode mX6_isFour.2.1 2 = .ok (.invokevirtual 241, 3) := by decide +kernel
theorem dX6_isFour_5 : decode mX6_isFour.2.1 5 = .ok (.ifCond .eq 30, 3) := by decide +kernel
theorem dX6_isFour_8 : decode mX6_isFour.2.1 8 = .ok (.aload_n 0, 1) := by decide +kernel
theorem dX6_isFour_9 : decode mX6_isFour.2.1 9 = .ok (.iconst 0, 1) := by decide +kernel
theorem dX6_isFour_10 : decode mX6_isFour.2.1 10 = .ok (.iload_n 1, 1) := by decide +kernel
theorem dX6_isFour_11 : decode mX6_isFour.2.1 11 = .ok (.iload_n 2, 1) := by decide +kernel
theorem dX6_isFour_12 : decode mX6_isFour.2.1 12 = .ok (.iload_n 3, 1) := by decide +kernel
theorem dX6_isFour_13 : decode mX6_isFour.2.1 13 = .ok (.invokevirtual 244, 3) := by decide +kernel
theorem dX6_isFour_16 : decode mX6_isFour.2.1 16 = .ok (.ifCond .eq 19, 3) := by decide +kernel
theorem dX6_isFour_19 : decode mX6_isFour.2.1 19 = .ok (.aload_n 0, 1) := by decide +kernel
theorem dX6_isFour_20 : decode mX6_isFour.2.1 20 = .ok (.iconst 1, 1) := by decide +kernel
theorem dX6_isFour_21 : decode mX6_isFour.2.1 21 = .ok (.iload_n 2, 1) := by decide +kernel
theorem dX6_isFour_22 : decode mX6_isFour.2.1 22 = .ok (.iload_n 3, 1) := by decide +kernel
theorem dX6_isFour_23 : decode mX6_isFour.2.1 23 = .ok (.iload 4, 2) := by decide +kernel
theorem dX6_isFour_25 : decode mX6_isFour.2.1 25 = .ok (.invokevirtual 244, 3) := by decide +kernel
theorem dX6_isFour_28 : decode mX6_isFour.2.1 28 = .ok (.ifCond .eq 7, 3) := by decide +kernel
theorem dX6_isFour_31 : decode mX6_isFour.2.1 31 = .ok (.iconst 1, 1) := by decide +kernel
theorem dX6_isFour_32 : decode mX6_isFour.2.1 32 = .ok (.goto 4, 3) := by decide +kernel
theorem dX6_isFour_35 : decode mX6_isFour.2.1 35 = .ok (.iconst 0, 1) := by decide +kernel
theorem dX6_isFour_36 : decode mX6_isFour.2.1 36 = .ok (.ireturn, 1) := by decide +kernel
theorem dX6_isFive_0 : decode mX6_isFive.2.1 0 = .ok (.aload_n 0, 1) := by decide +kernel
theorem dX6_isFive_1 : decode mX6_isFive.2.1 1 = .ok (.iconst 5, 1) := by decide +kernel
theorem dX6_isFive_2 : decode mX6_isFive.2.1 2 = .ok (.invokevirtual 241, 3) := by decide +kernel
theorem dX6_isFive_5 : decode mX6_isFive.2.1 5 = .ok (.ifCond .eq 31, 3) := by decide +kernel
theorem dX6_isFive_8 : decode mX6_isFive.2.1 8 = .ok (.aload_n 0, 1) := by decide +kernel
theorem dX6_isFive_9 : decode mX6_isFive.2.1 9 = .ok (.iconst 0, 1) := by decide +kernel
theorem dX6_isFive_10 : decode mX6_isFive.2.1 10 = .ok (.iload_n 1, 1) := by decide +kernel
theorem dX6_isFive_11 : decode mX6_isFive.2.1 11 = .ok (.iload_n 2, 1) := by decide +kernel
theorem dX6_isFive_12 : decode mX6_isFive.2.1 12 = .ok (.iload_n 3, 1) := by decide +kernel
theorem dX6_isFive_13 : decode mX6_isFive.2.1 13 = .ok (.invokevirtual 244, 3) := by decide +kernel
theorem dX6_isFive_16 : decode mX6_isFive.2.1 16 = .ok (.ifCond .eq 20, 3) := by decide +kernel
theorem dX6_isFive_19 : decode mX6_isFive.2.1 19 = .ok (.aload_n 0, 1) := by decide +kernel
theorem dX6_isFive_20 : decode mX6_isFive.2.1 20 = .ok (.iconst 2, 1) := by decide +kernel
theorem dX6_isFive_21 : decode mX6_isFive.2.1 21 = .ok (.iload_n 3, 1) := by decide +kernel
theorem dX6_isFive_22 : decode mX6_isFive.2.1 22 = .ok (.iload 4, 2) := by decide +kernel
theorem dX6_isFive_24 : decode mX6_isFive.2.1 24 = .ok (.iload 5, 2) := by decide +kernel
theorem dX6_isFive_26 : decode mX6_isFive.2.1 26 = .ok (.invokevirtual 244, 3) := by decide +kernel
theorem dX6_isFive_29 : decode mX6_isFive.2.1 29 = .ok (.ifCond .eq 7, 3) := by decide +kernel
theorem dX6_isFive_32 : decode mX6_isFive.2.1 32 = .ok (.iconst 1, 1) := by decide +kernel
theorem dX6_isFive_33 : decode mX6_isFive.2.1 33 = .ok (.goto 4, 3) := by decide +kernel
theorem dX6_isFive_36 : decode mX6_isFive.2.1 36 = .ok (.iconst 0, 1) := by decide +kernel
theorem dX6_isFive_37 : decode mX6_isFive.2.1 37 = .ok (.ireturn, 1) := by decide +kernel
theorem dX6_isSix_0 : decode mX6_isSix.2.1 0 = .ok (.aload_n 0, 1) := by decide +kernel
theorem dX6_isSix_1 : decode mX6_isSix.2.1 1 = .ok (.bipush 6, 2) := by decide +kernel
theorem dX6_isSix_3 : decode mX6_isSix.2.1 3 = .ok (.invokevirtual 241, 3) := by decide +kernel
theorem dX6_isSix_6 : decode mX6_isSix.2.1 6 = .ok (.ifCond .eq 32, 3) := by decide +kernel
theorem dX6_isSix_9 : decode mX6_isSix.2.1 9 = .ok (.aload_n 0, 1) := by decide +kernel
theorem dX6_isSix_10 : decode mX6_isSix.2.1 10 = .ok (.iconst 0, 1) := by decide +kernel
theorem dX6_isSix_11 : decode mX6_isSix.2.1 11 = .ok (.iload_n 1, 1) := by decide +kernel
theorem dX6_isSix_12 : decode mX6_isSix.2.1 12 = .ok (.iload_n 2, 1) := by decide +kernel
theorem dX6_isSix_13 : decode mX6_isSix.2.1 13 = .ok (.iload_n 3, 1) := by decide +kernel
theorem dX6_isSix_14 : decode mX6_isSix.2.1 14 = .ok (.invokevirtual 244, 3) := by decide +kernel
theorem dX6_isSix_17 : decode mX6_isSix.2.1 17 = .ok (.ifCond .eq 21, 3) := by decide +kernel
theorem dX6_isSix_20 : decode mX6_isSix.2.1 20 = .ok (.aload_n 0, 1) := by decide +kernel
theorem dX6_isSix_21 : decode mX6_isSix.2.1 21 = .ok (.iconst 3, 1) := by decide +kernel
theorem dX6_isSix_22 : decode mX6_isSix.2.1 22 = .ok (.iload 4, 2) := by decide +kernel
theorem dX6_isSix_24 : decode mX6_isSix.2.1 24 = .ok (.iload 5, 2) := by decide +kernel
theorem dX6_isSix_26 : decode mX6_isSix.2.1 26 = .ok (.iload 6, 2) := by decide +kernel
theorem dX6_isSix_28 : decode mX6_isSix.2.1 28 = .ok (.invokevirtual 244, 3) := by decide +kernel
theorem dX6_isSix_31 : decode mX6_isSix.2.1 31 = .ok (.ifCond .eq 7, 3) := by decide +kernel
theorem dX6_isSix_34 : decode mX6_isSix.2.1 34 = .ok (.iconst 1, 1) := by decide +kernel
theorem dX6_isSix_35 : decode mX6_isSix.2.1 35 = .ok (.goto 4, 3) := by decide +kernel
theorem dX6_isSix_38 : decode mX6_isSix.2.1 38 = .ok (.iconst 0, 1) := by decide +kernel
theorem dX6_isSix_39 : decode mX6_isSix.2.1 39 = .ok (.ireturn, 1) := by decide +kernel
theorem dX6_isNumber_0 : decode mX6_isNumber.2.1 0 = .ok (.aload_n 0, 1) := by decide +kernel
theorem dX6_isNumber_1 : decode mX6_isNumber.2.1 1 = .ok (.getfield 232, 3) := by decide +kernel
theorem dX6_isNumber_4 : decode mX6_isNumber.2.1 4 = .ok (.iconst 2, 1) := by decide +kernel
theorem dX6_isNumber_5 : decode mX6_isNumber.2.1 5 = .ok (.if_icmp .ne 18, 3) := by decide +kernel
theorem dX6_isNumber_8 : decode mX6_isNumber.2.1 8 = .ok (.aload_n 0, 1) := by decide +kernel
theorem dX6_isNumber_9 : decode mX6_isNumber.2.1 9 = .ok (.getfield 235, 3) := by decide +kernel
theorem dX6_isNumber_12 : decode mX6_isNumber.2.1 12 = .ok (.i2l, 1) := by decide +kernel
theorem dX6_isNumber_13 : decode mX6_isNumber.2.1 13 = .ok (.iload_n 1, 1) := by decide +kernel
theorem dX6_isNumber_14 : decode mX6_isNumber.2.1 14 = .ok (.i2l, 1) := by decide +kernel
theorem dX6_isNumber_15 : decode mX6_isNumber.2.1 15 = .ok (.iload_n 2, 1) := by decide +kernel
theorem dX6_isNumber_16 : decode mX6_isNumber.2.1 16 = .ok (.i2l, 1) := by decide +kernel
theorem dX6_isNumber_17 : decode mX6_isNumber.2.1 17 = .ok (.invokestatic 51, 3) := by decide +kernel
theorem dX6_isNumber_20 : decode mX6_isNumber.2.1 20 = .ok (.ifCond .ne 10, 3) := by decide +kernel
theorem dX6_isNumber_23 : decode mX6_isNumber.2.1 23 = .ok (.aload_n 0, 1) := by decide +kernel
theorem dX6_isNumber_24 : decode mX6_isNumber.2.1 24 = .ok (.invokevirtual 248, 3) := by decide +kernel
theorem dX6_isNumber_27 : decode mX6_isNumber.2.1 27 = .ok (.ifCond .eq 7, 3) := by decide +kernel
theorem dX6_isNumber_30 : decode mX6_isNumber.2.1 30 = .ok (.iconst 1, 1) := by decide +kernel
theorem dX6_isNumber_31 : decode mX6_isNumber.2.1 31 = .ok (.goto 4, 3) := by decide +kernel
theorem dX6_isNumber_34 : decode mX6_isNumber.2.1 34 = .ok (.iconst 0, 1) := by decide +kernel
theorem dX6_isNumber_35 : decode mX6_isNumber.2.1 35 = .ok (.ireturn, 1) := by decide +kernel
theorem dX6_kindHere_0 : decode mX6_kindHere.2.1 0 = .ok (.aload_n 0, 1) := by decide +kernel
theorem dX6_kindHere_1 : decode mX6_kindHere.2.1 1 = .ok (.bipush 102, 2) := by decide +kernel
theorem dX6_kindHere_3 : decode mX6_kindHere.2.1 3 = .ok (.bipush 97, 2) := by decide +kernel
theorem dX6_kindHere_5 : decode mX6_kindHere.2.1 5 = .ok (.bipush 114, 2) := by decide +kernel
theorem dX6_kindHere_7 : decode mX6_kindHere.2.1 7 = .ok (.bipush 109, 2) := by decide +kernel
theorem dX6_kindHere_9 : decode mX6_kindHere.2.1 9 = .ok (.invokevirtual 252, 3) := by decide +kernel
theorem dX6_kindHere_12 : decode mX6_kindHere.2.1 12 = .ok (.ifCond .eq 5, 3) := by decide +kernel
theorem dX6_kindHere_15 : decode mX6_kindHere.2.1 15 = .ok (.iconst 0, 1) := by decide +kernel
theorem dX6_kindHere_16 : decode mX6_kindHere.2.1 16 = .ok (.ireturn, 1) := by decide +kernel
theorem dX6_kindHere_17 : decode mX6_kindHere.2.1 17 = .ok (.aload_n 0, 1) := by decide +kernel
theorem dX6_kindHere_18 : decode mX6_kindHere.2.1 18 = .ok (.bipush 108, 2) := by decide +kernel
theorem dX6_kindHere_20 : decode mX6_kindHere.2.1 20 = .ok (.bipush 97, 2) := by decide +kernel
theorem dX6_kindHere_22 : decode mX6_kindHere.2.1 22 = .ok (.bipush 109, 2) := by decide +kernel
theorem dX6_kindHere_24 : decode mX6_kindHere.2.1 24 = .ok (.bipush 101, 2) := by decide +kernel
theorem dX6_kindHere_26 : decode mX6_kindHere.2.1 26 = .ok (.invokevirtual 252, 3) := by decide +kernel
theorem dX6_kindHere_29 : decode mX6_kindHere.2.1 29 = .ok (.ifCond .eq 5, 3) := by decide +kernel
theorem dX6_kindHere_32 : decode mX6_kindHere.2.1 32 = .ok (.iconst 1, 1) := by decide +kernel
theorem dX6_kindHere_33 : decode mX6_kindHere.2.1 33 = .ok (.ireturn, 1) := by decide +kernel
theorem dX6_kindHere_34 : decode mX6_kindHere.2.1 34 = .ok (.aload_n 0, 1) := by decide +kernel
theorem dX6_kindHere_35 : decode mX6_kindHere.2.1 35 = .ok (.bipush 112, 2) := by decide +kernel
theorem dX6_kindHere_37 : decode mX6_kindHere.2.1 37 = .ok (.bipush 114, 2) := by decide +kernel
theorem dX6_kindHere_39 : decode mX6_kindHere.2.1 39 = .ok (.bipush 111, 2) := by decide +kernel
theorem dX6_kindHere_41 : decode mX6_kindHere.2.1 41 = .ok (.bipush 117, 2) := by decide +kernel
theorem dX6_kindHere_43 : decode mX6_kindHere.2.1 43 = .ok (.bipush 100, 2) := by decide +kernel
theorem dX6_kindHere_45 : decode mX6_kindHere.2.1 45 = .ok (.invokevirtual 255, 3) := by decide +kernel
theorem dX6_kindHere_48 : decode mX6_kindHere.2.1 48 = .ok (.ifCond .eq 5, 3) := by decide +kernel
theorem dX6_kindHere_51 : decode mX6_kindHere.2.1 51 = .ok (.iconst 2, 1) := by decide +kernel
theorem dX6_kindHere_52 : decode mX6_kindHere.2.1 52 = .ok (.ireturn, 1) := by decide +kernel
theorem dX6_kindHere_53 : decode mX6_kindHere.2.1 53 = .ok (.aload_n 0, 1) := by decide +kernel
theorem dX6_kindHere_54 : decode mX6_kindHere.2.1 54 = .ok (.iconst 3, 1) := by decide +kernel
theorem dX6_kindHere_55 : decode mX6_kindHere.2.1 55 = .ok (.invokevirtual 241, 3) := by decide +kernel
theorem dX6_kindHere_58 : decode mX6_kindHere.2.1 58 = .ok (.ifCond .eq 19, 3) := by decide +kernel
theorem dX6_kindHere_61 : decode mX6_kindHere.2.1 61 = .ok (.aload_n 0, 1) := by decide +kernel
theorem dX6_kindHere_62 : decode mX6_kindHere.2.1 62 = .ok (.iconst 0, 1) := by decide +kernel
theorem dX6_kindHere_63 : decode mX6_kindHere.2.1 63 = .ok (.bipush 115, 2) := by decide +kernel
theorem dX6_kindHere_65 : decode mX6_kindHere.2.1 65 = .ok (.bipush 108, 2) := by decide +kernel
theorem dX6_kindHere_67 : decode mX6_kindHere.2.1 67 = .ok (.bipush 121, 2) := by decide +kernel
theorem dX6_kindHere_69 : decode mX6_kindHere.2.1 69 = .ok (.invokevirtual 244, 3) := by decide +kernel
theorem dX6_kindHere_72 : decode mX6_kindHere.2.1 72 = .ok (.ifCond .eq 5, 3) := by decide +kernel
theorem dX6_kindHere_75 : decode mX6_kindHere.2.1 75 = .ok (.iconst 3, 1) := by decide +kernel
theorem dX6_kindHere_76 : decode mX6_kindHere.2.1 76 = .ok (.ireturn, 1) := by decide +kernel
theorem dX6_kindHere_77 : decode mX6_kindHere.2.1 77 = .ok (.aload_n 0, 1) := by decide +kernel
theorem dX6_kindHere_78 : decode mX6_kindHere.2.1 78 = .ok (.bipush 100, 2) := by decide +kernel
theorem dX6_kindHere_80 : decode mX6_kindHere.2.1 80 = .ok (.bipush 101, 2) := by decide +kernel
theorem dX6_kindHere_82 : decode mX6_kindHere.2.1 82 = .ok (.bipush 101, 2) := by decide +kernel
theorem dX6_kindHere_84 : decode mX6_kindHere.2.1 84 = .ok (.bipush 112, 2) := by decide +kernel
theorem dX6_kindHere_86 : decode mX6_kindHere.2.1 86 = .ok (.invokevirtual 252, 3) := by decide +kernel
theorem dX6_kindHere_89 : decode mX6_kindHere.2.1 89 = .ok (.ifCond .eq 5, 3) := by decide +kernel
theorem dX6_kindHere_92 : decode mX6_kindHere.2.1 92 = .ok (.iconst 4, 1) := by decide +kernel
theorem dX6_kindHere_93 : decode mX6_kindHere.2.1 93 = .ok (.ireturn, 1) := by decide +kernel
theorem dX6_kindHere_94 : decode mX6_kindHere.2.1 94 = .ok (.aload_n 0, 1) := by decide +kernel
theorem dX6_kindHere_95 : decode mX6_kindHere.2.1 95 = .ok (.bipush 7, 2) := by decide +kernel
theorem dX6_kindHere_97 : decode mX6_kindHere.2.1 97 = .ok (.invokevirtual 241, 3) := by decide +kernel
theorem dX6_kindHere_100 : decode mX6_kindHere.2.1 100 = .ok (.ifCond .eq 47, 3) := by decide +kernel
theorem dX6_kindHere_103 : decode mX6_kindHere.2.1 103 = .ok (.aload_n 0, 1) := by decide +kernel
theorem dX6_kindHere_104 : decode mX6_kindHere.2.1 104 = .ok (.iconst 0, 1) := by decide +kernel
theorem dX6_kindHere_105 : decode mX6_kindHere.2.1 105 = .ok (.bipush 109, 2) := by decide +kernel
theorem dX6_kindHere_107 : decode mX6_kindHere.2.1 107 = .ok (.bipush 97, 2) := by decide +kernel
theorem dX6_kindHere_109 : decode mX6_kindHere.2.1 109 = .ok (.bipush 99, 2) := by decide +kernel
theorem dX6_kindHere_111 : decode mX6_kindHere.2.1 111 = .ok (.invokevirtual 244, 3) := by decide +kernel
theorem dX6_kindHere_114 : decode mX6_kindHere.2.1 114 = .ok (.ifCond .eq 33, 3) := by decide +kernel
theorem dX6_kindHere_117 : decode mX6_kindHere.2.1 117 = .ok (.aload_n 0, 1) := by decide +kernel
theorem dX6_kindHere_118 : decode mX6_kindHere.2.1 118 = .ok (.iconst 3, 1) := by decide +kernel
theorem dX6_kindHere_119 : decode mX6_kindHere.2.1 119 = .ok (.bipush 104, 2) := by decide +kernel
theorem dX6_kindHere_121 : decode mX6_kindHere.2.1 121 = .ok (.bipush 105, 2) := by decide +kernel
theorem dX6_kindHere_123 : decode mX6_kindHere.2.1 123 = .ok (.bipush 110, 2) := by decide +kernel
theorem dX6_kindHere_125 : decode mX6_kindHere.2.1 125 = .ok (.invokevirtual 244, 3) := by decide +kernel
theorem dX6_kindHere_128 : decode mX6_kindHere.2.1 128 = .ok (.ifCond .eq 19, 3) := by decide +kernel
theorem dX6_kindHere_131 : decode mX6_kindHere.2.1 131 = .ok (.aload_n 0, 1) := by decide +kernel
theorem dX6_kindHere_132 : decode mX6_kindHere.2.1 132 = .ok (.iconst 4, 1) := by decide +kernel
theorem dX6_kindHere_133 : decode mX6_kindHere.2.1 133 = .ok (.bipush 105, 2) := by decide +kernel
theorem dX6_kindHere_135 : decode mX6_kindHere.2.1 135 = .ok (.bipush 110, 2) := by decide +kernel
theorem dX6_kindHere_137 : decode mX6_kindHere.2.1 137 = .ok (.bipush 101, 2) := by decide +kernel
theorem dX6_kindHere_139 : decode mX6_kindHere.2.1 139 = .ok (.invokevirtual 244, 3) := by decide +kernel
theorem dX6_kindHere_142 : decode mX6_kindHere.2.1 142 = .ok (.ifCond .eq 5, 3) := by decide +kernel
theorem dX6_kindHere_145 : decode mX6_kindHere.2.1 145 = .ok (.iconst 5, 1) := by decide +kernel
theorem dX6_kindHere_146 : decode mX6_kindHere.2.1 146 = .ok (.ireturn, 1) := by decide +kernel
theorem dX6_kindHere_147 : decode mX6_kindHere.2.1 147 = .ok (.aload_n 0, 1) := by decide +kernel
theorem dX6_kindHere_148 : decode mX6_kindHere.2.1 148 = .ok (.iconst 3, 1) := by decide +kernel
theorem dX6_kindHere_149 : decode mX6_kindHere.2.1 149 = .ok (.invokevirtual 241, 3) := by decide +kernel
theorem dX6_kindHere_152 : decode mX6_kindHere.2.1 152 = .ok (.ifCond .eq 22, 3) := by decide +kernel
theorem dX6_kindHere_155 : decode mX6_kindHere.2.1 155 = .ok (.aload_n 0, 1) := by decide +kernel
theorem dX6_kindHere_156 : decode mX6_kindHere.2.1 156 = .ok (.iconst 0, 1) := by decide +kernel
theorem dX6_kindHere_157 : decode mX6_kindHere.2.1 157 = .ok (.bipush 111, 2) := by decide +kernel
theorem dX6_kindHere_159 : decode mX6_kindHere.2.1 159 = .ok (.bipush 108, 2) := by decide +kernel
theorem dX6_kindHere_161 : decode mX6_kindHere.2.1 161 = .ok (.bipush 100, 2) := by decide +kernel
theorem dX6_kindHere_163 : decode mX6_kindHere.2.1 163 = .ok (.invokevirtual 244, 3) := by decide +kernel
theorem dX6_kindHere_166 : decode mX6_kindHere.2.1 166 = .ok (.ifCond .eq 8, 3) := by decide +kernel
theorem dX6_kindHere_169 : decode mX6_kindHere.2.1 169 = .ok (.bipush 6, 2) := by decide +kernel
theorem dX6_kindHere_171 : decode mX6_kindHere.2.1 171 = .ok (.goto 4, 3) := by decide +kernel
theorem dX6_kindHere_174 : decode mX6_kindHere.2.1 174 = .ok (.iconst (-1), 1) := by decide +kernel
theorem dX6_kindHere_175 : decode mX6_kindHere.2.1 175 = .ok (.ireturn, 1) := by decide +kernel
theorem dX6_handsHere_0 : decode mX6_handsHere.2.1 0 = .ok (.aload_n 0, 1) := by decide +kernel
theorem dX6_handsHere_1 : decode mX6_handsHere.2.1 1 = .ok (.bipush 104, 2) := by decide +kernel
theorem dX6_handsHere_3 : decode mX6_handsHere.2.1 3 = .ok (.bipush 97, 2) := by decide +kernel
theorem dX6_handsHere_5 : decode mX6_handsHere.2.1 5 = .ok (.bipush 110, 2) := by decide +kernel
theorem dX6_handsHere_7 : decode mX6_handsHere.2.1 7 = .ok (.bipush 100, 2) := by decide +kernel
theorem dX6_handsHere_9 : decode mX6_handsHere.2.1 9 = .ok (.bipush 115, 2) := by decide +kernel
theorem dX6_handsHere_11 : decode mX6_handsHere.2.1 11 = .ok (.invokevirtual 255, 3) := by decide +kernel
theorem dX6_handsHere_14 : decode mX6_handsHere.2.1 14 = .ok (.ifCond .ne 5, 3) := by decide +kernel
theorem dX6_handsHere_17 : decode mX6_handsHere.2.1 17 = .ok (.iconst 1, 1) := by decide +kernel
theorem dX6_handsHere_18 : decode mX6_handsHere.2.1 18 = .ok (.ireturn, 1) := by decide +kernel
theorem dX6_handsHere_19 : decode mX6_handsHere.2.1 19 = .ok (.aload_n 0, 1) := by decide +kernel
theorem dX6_handsHere_20 : decode mX6_handsHere.2.1 20 = .ok (.invokevirtual 259, 3) := by decide +kernel
theorem dX6_handsHere_23 : decode mX6_handsHere.2.1 23 = .ok (.aload_n 0, 1) := by decide +kernel
theorem dX6_handsHere_24 : decode mX6_handsHere.2.1 24 = .ok (.iconst 1, 1) := by decide +kernel
theorem dX6_handsHere_25 : decode mX6_handsHere.2.1 25 = .ok (.bipush 20, 2) := by decide +kernel
theorem dX6_handsHere_27 : decode mX6_handsHere.2.1 27 = .ok (.invokevirtual 262, 3) := by decide +kernel
theorem dX6_handsHere_30 : decode mX6_handsHere.2.1 30 = .ok (.ifCond .ne 5, 3) := by decide +kernel
theorem dX6_handsHere_33 : decode mX6_handsHere.2.1 33 = .ok (.iconst 0, 1) := by decide +kernel
theorem dX6_handsHere_34 : decode mX6_handsHere.2.1 34 = .ok (.ireturn, 1) := by decide +kernel
theorem dX6_handsHere_35 : decode mX6_handsHere.2.1 35 = .ok (.aload_n 0, 1) := by decide +kernel
theorem dX6_handsHere_36 : decode mX6_handsHere.2.1 36 = .ok (.getfield 7, 3) := by decide +kernel
theorem dX6_handsHere_39 : decode mX6_handsHere.2.1 39 = .ok (.bipush 6, 2) := by decide +kernel
theorem dX6_handsHere_41 : decode mX6_handsHere.2.1 41 = .ok (.iconst 5, 1) := by decide +kernel
theorem dX6_handsHere_42 : decode mX6_handsHere.2.1 42 = .ok (.aload_n 0, 1) := by decide +kernel
theorem dX6_handsHere_43 : decode mX6_handsHere.2.1 43 = .ok (.getfield 7, 3) := by decide +kernel
theorem dX6_handsHere_46 : decode mX6_handsHere.2.1 46 = .ok (.iconst 0, 1) := by decide +kernel
theorem dX6_handsHere_47 : decode mX6_handsHere.2.1 47 = .ok (.iaload, 1) := by decide +kernel
theorem dX6_handsHere_48 : decode mX6_handsHere.2.1 48 = .ok (.iconst 1, 1) := by decide +kernel
theorem dX6_handsHere_49 : decode mX6_handsHere.2.1 49 = .ok (.isub, 1) := by decide +kernel
theorem dX6_handsHere_50 : decode mX6_handsHere.2.1 50 = .ok (.imul, 1) := by decide +kernel
theorem dX6_handsHere_51 : decode mX6_handsHere.2.1 51 = .ok (.iadd, 1) := by decide +kernel
theorem dX6_handsHere_52 : decode mX6_handsHere.2.1 52 = .ok (.iconst 2, 1) := by decide +kernel
theorem dX6_handsHere_53 : decode mX6_handsHere.2.1 53 = .ok (.iadd, 1) := by decide +kernel
theorem dX6_handsHere_54 : decode mX6_handsHere.2.1 54 = .ok (.aload_n 0, 1) := by decide +kernel
theorem dX6_handsHere_55 : decode mX6_handsHere.2.1 55 = .ok (.getfield 235, 3) := by decide +kernel
theorem dX6_handsHere_58 : decode mX6_handsHere.2.1 58 = .ok (.iastore, 1) := by decide +kernel
theorem dX6_handsHere_59 : decode mX6_handsHere.2.1 59 = .ok (.aload_n 0, 1) := by decide +kernel
theorem dX6_handsHere_60 : decode mX6_handsHere.2.1 60 = .ok (.invokevirtual 259, 3) := by decide +kernel
theorem dX6_handsHere_63 : decode mX6_handsHere.2.1 63 = .ok (.iconst 1, 1) := by decide +kernel
theorem dX6_handsHere_64 : decode mX6_handsHere.2.1 64 = .ok (.ireturn, 1) := by decide +kernel
theorem dX6_thinksHere_0 : decode mX6_thinksHere.2.1 0 = .ok (.aload_n 0, 1) := by decide +kernel
theorem dX6_thinksHere_1 : decode mX6_thinksHere.2.1 1 = .ok (.bipush 116, 2) := by decide +kernel
theorem dX6_thinksHere_3 : decode mX6_thinksHere.2.1 3 = .ok (.bipush 104, 2) := by decide +kernel
theorem dX6_thinksHere_5 : decode mX6_thinksHere.2.1 5 = .ok (.bipush 105, 2) := by decide +kernel
theorem dX6_thinksHere_7 : decode mX6_thinksHere.2.1 7 = .ok (.bipush 110, 2) := by decide +kernel
theorem dX6_thinksHere_9 : decode mX6_thinksHere.2.1 9 = .ok (.bipush 107, 2) := by decide +kernel
theorem dX6_thinksHere_11 : decode mX6_thinksHere.2.1 11 = .ok (.bipush 115, 2) := by decide +kernel
theorem dX6_thinksHere_13 : decode mX6_thinksHere.2.1 13 = .ok (.invokevirtual 265, 3) := by decide +kernel
theorem dX6_thinksHere_16 : decode mX6_thinksHere.2.1 16 = .ok (.ifCond .ne 5, 3) := by decide +kernel
theorem dX6_thinksHere_19 : decode mX6_thinksHere.2.1 19 = .ok (.iconst 1, 1) := by decide +kernel
theorem dX6_thinksHere_20 : decode mX6_thinksHere.2.1 20 = .ok (.ireturn, 1) := by decide +kernel
theorem dX6_thinksHere_21 : decode mX6_thinksHere.2.1 21 = .ok (.aload_n 0, 1) := by decide +kernel
theorem dX6_thinksHere_22 : decode mX6_thinksHere.2.1 22 = .ok (.invokevirtual 259, 3) := by decide +kernel
theorem dX6_thinksHere_25 : decode mX6_thinksHere.2.1 25 = .ok (.aload_n 0, 1) := by decide +kernel
theorem dX6_thinksHere_26 : decode mX6_thinksHere.2.1 26 = .ok (.getfield 232, 3) := by decide +kernel
theorem dX6_thinksHere_29 : decode mX6_thinksHere.2.1 29 = .ok (.iconst 5, 1) := by decide +kernel
theorem dX6_thinksHere_30 : decode mX6_thinksHere.2.1 30 = .ok (.if_icmp .ne 7, 3) := by decide +kernel
theorem dX6_thinksHere_33 : decode mX6_thinksHere.2.1 33 = .ok (.iconst 1, 1) := by decide +kernel
theorem dX6_thinksHere_34 : decode mX6_thinksHere.2.1 34 = .ok (.goto 4, 3) := by decide +kernel
theorem dX6_thinksHere_37 : decode mX6_thinksHere.2.1 37 = .ok (.iconst 0, 1) := by decide +kernel
theorem dX6_thinksHere_38 : decode mX6_thinksHere.2.1 38 = .ok (.istore_n 1, 1) := by decide +kernel
theorem dX6_thinksHere_39 : decode mX6_thinksHere.2.1 39 = .ok (.iload_n 1, 1) := by decide +kernel
theorem dX6_thinksHere_40 : decode mX6_thinksHere.2.1 40 = .ok (.ifCond .eq 7, 3) := by decide +kernel
theorem dX6_thinksHere_43 : decode mX6_thinksHere.2.1 43 = .ok (.aload_n 0, 1) := by decide +kernel
theorem dX6_thinksHere_44 : decode mX6_thinksHere.2.1 44 = .ok (.invokevirtual 259, 3) := by decide +kernel
theorem dX6_thinksHere_47 : decode mX6_thinksHere.2.1 47 = .ok (.aload_n 0, 1) := by decide +kernel
theorem dX6_thinksHere_48 : decode mX6_thinksHere.2.1 48 = .ok (.iconst 0, 1) := by decide +kernel
theorem dX6_thinksHere_49 : decode mX6_thinksHere.2.1 49 = .ok (.bipush 9, 2) := by decide +kernel
theorem dX6_thinksHere_51 : decode mX6_thinksHere.2.1 51 = .ok (.invokevirtual 262, 3) := by decide +kernel
theorem dX6_thinksHere_54 : decode mX6_thinksHere.2.1 54 = .ok (.ifCond .ne 5, 3) := by decide +kernel
theorem dX6_thinksHere_57 : decode mX6_thinksHere.2.1 57 = .ok (.iconst 0, 1) := by decide +kernel
theorem dX6_thinksHere_58 : decode mX6_thinksHere.2.1 58 = .ok (.ireturn, 1) := by decide +kernel
theorem dX6_thinksHere_59 : decode mX6_thinksHere.2.1 59 = .ok (.aload_n 0, 1) := by decide +kernel
theorem dX6_thinksHere_60 : decode mX6_thinksHere.2.1 60 = .ok (.getfield 7, 3) := by decide +kernel
theorem dX6_thinksHere_63 : decode mX6_thinksHere.2.1 63 = .ok (.bipush 6, 2) := by decide +kernel
theorem dX6_thinksHere_65 : decode mX6_thinksHere.2.1 65 = .ok (.iconst 5, 1) := by decide +kernel
theorem dX6_thinksHere_66 : decode mX6_thinksHere.2.1 66 = .ok (.aload_n 0, 1) := by decide +kernel
theorem dX6_thinksHere_67 : decode mX6_thinksHere.2.1 67 = .ok (.getfield 7, 3) := by decide +kernel
theorem dX6_thinksHere_70 : decode mX6_thinksHere.2.1 70 = .ok (.iconst 0, 1) := by decide +kernel
theorem dX6_thinksHere_71 : decode mX6_thinksHere.2.1 71 = .ok (.iaload, 1) := by decide +kernel
theorem dX6_thinksHere_72 : decode mX6_thinksHere.2.1 72 = .ok (.iconst 1, 1) := by decide +kernel
theorem dX6_thinksHere_73 : decode mX6_thinksHere.2.1 73 = .ok (.isub, 1) := by decide +kernel
theorem dX6_thinksHere_74 : decode mX6_thinksHere.2.1 74 = .ok (.imul, 1) := by decide +kernel
theorem dX6_thinksHere_75 : decode mX6_thinksHere.2.1 75 = .ok (.iadd, 1) := by decide +kernel
theorem dX6_thinksHere_76 : decode mX6_thinksHere.2.1 76 = .ok (.iconst 3, 1) := by decide +kernel
theorem dX6_thinksHere_77 : decode mX6_thinksHere.2.1 77 = .ok (.iadd, 1) := by decide +kernel
theorem dX6_thinksHere_78 : decode mX6_thinksHere.2.1 78 = .ok (.iload_n 1, 1) := by decide +kernel
theorem dX6_thinksHere_79 : decode mX6_thinksHere.2.1 79 = .ok (.ifCond .eq 11, 3) := by decide +kernel
theorem dX6_thinksHere_82 : decode mX6_thinksHere.2.1 82 = .ok (.aload_n 0, 1) := by decide +kernel
theorem dX6_thinksHere_83 : decode mX6_thinksHere.2.1 83 = .ok (.getfield 235, 3) := by decide +kernel
theorem dX6_thinksHere_86 : decode mX6_thinksHere.2.1 86 = .ok (.ineg, 1) := by decide +kernel
theorem dX6_thinksHere_87 : decode mX6_thinksHere.2.1 87 = .ok (.goto 7, 3) := by decide +kernel
theorem dX6_thinksHere_90 : decode mX6_thinksHere.2.1 90 = .ok (.aload_n 0, 1) := by decide +kernel
theorem dX6_thinksHere_91 : decode mX6_thinksHere.2.1 91 = .ok (.getfield 235, 3) := by decide +kernel
theorem dX6_thinksHere_94 : decode mX6_thinksHere.2.1 94 = .ok (.iastore, 1) := by decide +kernel
theorem dX6_thinksHere_95 : decode mX6_thinksHere.2.1 95 = .ok (.aload_n 0, 1) := by decide +kernel
theorem dX6_thinksHere_96 : decode mX6_thinksHere.2.1 96 = .ok (.invokevirtual 259, 3) := by decide +kernel
theorem dX6_thinksHere_99 : decode mX6_thinksHere.2.1 99 = .ok (.iconst 1, 1) := by decide +kernel
theorem dX6_thinksHere_100 : decode mX6_thinksHere.2.1 100 = .ok (.ireturn, 1) := by decide +kernel
theorem dX6_farmHere_0 : decode mX6_farmHere.2.1 0 = .ok (.aload_n 0, 1) := by decide +kernel
theorem dX6_farmHere_1 : decode mX6_farmHere.2.1 1 = .ok (.getfield 7, 3) := by decide +kernel
theorem dX6_farmHere_4 : decode mX6_farmHere.2.1 4 = .ok (.iconst 0, 1) := by decide +kernel
theorem dX6_farmHere_5 : decode mX6_farmHere.2.1 5 = .ok (.iaload, 1) := by decide +kernel
theorem dX6_farmHere_6 : decode mX6_farmHere.2.1 6 = .ok (.bipush 8, 2) := by decide +kernel
theorem dX6_farmHere_8 : decode mX6_farmHere.2.1 8 = .ok (.if_icmp .ne 8, 3) := by decide +kernel
theorem dX6_farmHere_11 : decode mX6_farmHere.2.1 11 = .ok (.aload_n 0, 1) := by decide +kernel
theorem dX6_farmHere_12 : decode mX6_farmHere.2.1 12 = .ok (.invokevirtual 248, 3) := by decide +kernel
theorem dX6_farmHere_15 : decode mX6_farmHere.2.1 15 = .ok (.ireturn, 1) := by decide +kernel
theorem dX6_farmHere_16 : decode mX6_farmHere.2.1 16 = .ok (.aload_n 0, 1) := by decide +kernel
theorem dX6_farmHere_17 : decode mX6_farmHere.2.1 17 = .ok (.invokevirtual 259, 3) := by decide +kernel
theorem dX6_farmHere_20 : decode mX6_farmHere.2.1 20 = .ok (.aload_n 0, 1) := by decide +kernel
theorem dX6_farmHere_21 : decode mX6_farmHere.2.1 21 = .ok (.iconst 0, 1) := by decide +kernel
theorem dX6_farmHere_22 : decode mX6_farmHere.2.1 22 = .ok (.sipush 999, 3) := by decide +kernel
theorem dX6_farmHere_25 : decode mX6_farmHere.2.1 25 = .ok (.invokevirtual 262, 3) := by decide +kernel
theorem dX6_farmHere_28 : decode mX6_farmHere.2.1 28 = .ok (.ifCond .ne 5, 3) := by decide +kernel
theorem dX6_farmHere_31 : decode mX6_farmHere.2.1 31 = .ok (.iconst 0, 1) := by decide +kernel
theorem dX6_farmHere_32 : decode mX6_farmHere.2.1 32 = .ok (.ireturn, 1) := by decide +kernel
theorem dX6_farmHere_33 : decode mX6_farmHere.2.1 33 = .ok (.aload_n 0, 1) := by decide +kernel
theorem dX6_farmHere_34 : decode mX6_farmHere.2.1 34 = .ok (.iload_n 1, 1) := by decide +kernel
theorem dX6_farmHere_35 : decode mX6_farmHere.2.1 35 = .ok (.aload_n 0, 1) := by decide +kernel
theorem dX6_farmHere_36 : decode mX6_farmHere.2.1 36 = .ok (.getfield 235, 3) := by decide +kernel
theorem dX6_farmHere_39 : decode mX6_farmHere.2.1 39 = .ok (.invokevirtual 66, 3) := by decide +kernel
theorem dX6_farmHere_42 : decode mX6_farmHere.2.1 42 = .ok (.aload_n 0, 1) := by decide +kernel
theorem dX6_farmHere_43 : decode mX6_farmHere.2.1 43 = .ok (.invokevirtual 259, 3) := by decide +kernel
theorem dX6_farmHere_46 : decode mX6_farmHere.2.1 46 = .ok (.aload_n 0, 1) := by decide +kernel
theorem dX6_farmHere_47 : decode mX6_farmHere.2.1 47 = .ok (.invokevirtual 269, 3) := by decide +kernel
theorem dX6_farmHere_50 : decode mX6_farmHere.2.1 50 = .ok (.ifCond .eq 14, 3) := by decide +kernel
theorem dX6_farmHere_53 : decode mX6_farmHere.2.1 53 = .ok (.aload_n 0, 1) := by decide +kernel
theorem dX6_farmHere_54 : decode mX6_farmHere.2.1 54 = .ok (.invokevirtual 272, 3) := by decide +kernel
theorem dX6_farmHere_57 : decode mX6_farmHere.2.1 57 = .ok (.ifCond .eq 7, 3) := by decide +kernel
theorem dX6_farmHere_60 : decode mX6_farmHere.2.1 60 = .ok (.iconst 1, 1) := by decide +kernel
theorem dX6_farmHere_61 : decode mX6_farmHere.2.1 61 = .ok (.goto 4, 3) := by decide +kernel
theorem dX6_farmHere_64 : decode mX6_farmHere.2.1 64 = .ok (.iconst 0, 1) := by decide +kernel
theorem dX6_farmHere_65 : decode mX6_farmHere.2.1 65 = .ok (.ireturn, 1) := by decide +kernel
theorem dX6_weatherHere_0 : decode mX6_weatherHere.2.1 0 = .ok (.aload_n 0, 1) := by decide +kernel
theorem dX6_weatherHere_1 : decode mX6_weatherHere.2.1 1 = .ok (.invokevirtual 259, 3) := by decide +kernel
theorem dX6_weatherHere_4 : decode mX6_weatherHere.2.1 4 = .ok (.aload_n 0, 1) := by decide +kernel
theorem dX6_weatherHere_5 : decode mX6_weatherHere.2.1 5 = .ok (.iconst 0, 1) := by decide +kernel
theorem dX6_weatherHere_6 : decode mX6_weatherHere.2.1 6 = .ok (.bipush 99, 2) := by decide +kernel
theorem dX6_weatherHere_8 : decode mX6_weatherHere.2.1 8 = .ok (.invokevirtual 262, 3) := by decide +kernel
theorem dX6_weatherHere_11 : decode mX6_weatherHere.2.1 11 = .ok (.ifCond .ne 5, 3) := by decide +kernel
theorem dX6_weatherHere_14 : decode mX6_weatherHere.2.1 14 = .ok (.iconst 0, 1) := by decide +kernel
theorem dX6_weatherHere_15 : decode mX6_weatherHere.2.1 15 = .ok (.ireturn, 1) := by decide +kernel
theorem dX6_weatherHere_16 : decode mX6_weatherHere.2.1 16 = .ok (.aload_n 0, 1) := by decide +kernel
theorem dX6_weatherHere_17 : decode mX6_weatherHere.2.1 17 = .ok (.getfield 7, 3) := by decide +kernel
theorem dX6_weatherHere_20 : decode mX6_weatherHere.2.1 20 = .ok (.iconst 3, 1) := by decide +kernel
theorem dX6_weatherHere_21 : decode mX6_weatherHere.2.1 21 = .ok (.iload_n 1, 1) := by decide +kernel
theorem dX6_weatherHere_22 : decode mX6_weatherHere.2.1 22 = .ok (.iadd, 1) := by decide +kernel
theorem dX6_weatherHere_23 : decode mX6_weatherHere.2.1 23 = .ok (.aload_n 0, 1) := by decide +kernel
theorem dX6_weatherHere_24 : decode mX6_weatherHere.2.1 24 = .ok (.getfield 235, 3) := by decide +kernel
theorem dX6_weatherHere_27 : decode mX6_weatherHere.2.1 27 = .ok (.iastore, 1) := by decide +kernel
theorem dX6_weatherHere_28 : decode mX6_weatherHere.2.1 28 = .ok (.aload_n 0, 1) := by decide +kernel
theorem dX6_weatherHere_29 : decode mX6_weatherHere.2.1 29 = .ok (.invokevirtual 259, 3) := by decide +kernel
theorem dX6_weatherHere_32 : decode mX6_weatherHere.2.1 32 = .ok (.iconst 1, 1) := by decide +kernel
theorem dX6_weatherHere_33 : decode mX6_weatherHere.2.1 33 = .ok (.ireturn, 1) := by decide +kernel
theorem dX6_itemHere_0 : decode mX6_itemHere.2.1 0 = .ok (.aload_n 0, 1) := by decide +kernel
theorem dX6_itemHere_1 : decode mX6_itemHere.2.1 1 = .ok (.invokevirtual 275, 3) := by decide +kernel
theorem dX6_itemHere_4 : decode mX6_itemHere.2.1 4 = .ok (.istore_n 1, 1) := by decide +kernel
theorem dX6_itemHere_5 : decode mX6_itemHere.2.1 5 = .ok (.iload_n 1, 1) := by decide +kernel
theorem dX6_itemHere_6 : decode mX6_itemHere.2.1 6 = .ok (.ifCond .lt 9, 3) := by decide +kernel
theorem dX6_itemHere_9 : decode mX6_itemHere.2.1 9 = .ok (.aload_n 0, 1) := by decide +kernel
theorem dX6_itemHere_10 : decode mX6_itemHere.2.1 10 = .ok (.iload_n 1, 1) := by decide +kernel
theorem dX6_itemHere_11 : decode mX6_itemHere.2.1 11 = .ok (.invokevirtual 278, 3) := by decide +kernel
theorem dX6_itemHere_14 : decode mX6_itemHere.2.1 14 = .ok (.ireturn, 1) := by decide +kernel
theorem dX6_itemHere_15 : decode mX6_itemHere.2.1 15 = .ok (.aload_n 0, 1) := by decide +kernel
theorem dX6_itemHere_16 : decode mX6_itemHere.2.1 16 = .ok (.iconst 3, 1) := by decide +kernel
theorem dX6_itemHere_17 : decode mX6_itemHere.2.1 17 = .ok (.invokevirtual 241, 3) := by decide +kernel
theorem dX6_itemHere_20 : decode mX6_itemHere.2.1 20 = .ok (.ifCond .eq 23, 3) := by decide +kernel
theorem dX6_itemHere_23 : decode mX6_itemHere.2.1 23 = .ok (.aload_n 0, 1) := by decide +kernel
theorem dX6_itemHere_24 : decode mX6_itemHere.2.1 24 = .ok (.iconst 0, 1) := by decide +kernel
theorem dX6_itemHere_25 : decode mX6_itemHere.2.1 25 = .ok (.bipush 119, 2) := by decide +kernel
theorem dX6_itemHere_27 : decode mX6_itemHere.2.1 27 = .ok (.bipush 101, 2) := by decide +kernel
theorem dX6_itemHere_29 : decode mX6_itemHere.2.1 29 = .ok (.bipush 116, 2) := by decide +kernel
theorem dX6_itemHere_31 : decode mX6_itemHere.2.1 31 = .ok (.invokevirtual 244, 3) := by decide +kernel
theorem dX6_itemHere_34 : decode mX6_itemHere.2.1 34 = .ok (.ifCond .eq 9, 3) := by decide +kernel
theorem dX6_itemHere_37 : decode mX6_itemHere.2.1 37 = .ok (.aload_n 0, 1) := by decide +kernel
theorem dX6_itemHere_38 : decode mX6_itemHere.2.1 38 = .ok (.iconst 0, 1) := by decide +kernel
theorem dX6_itemHere_39 : decode mX6_itemHere.2.1 39 = .ok (.invokevirtual 281, 3) := by decide +kernel
theorem dX6_itemHere_42 : decode mX6_itemHere.2.1 42 = .ok (.ireturn, 1) := by decide +kernel
theorem dX6_itemHere_43 : decode mX6_itemHere.2.1 43 = .ok (.aload_n 0, 1) := by decide +kernel
theorem dX6_itemHere_44 : decode mX6_itemHere.2.1 44 = .ok (.bipush 109, 2) := by decide +kernel
theorem dX6_itemHere_46 : decode mX6_itemHere.2.1 46 = .ok (.bipush 105, 2) := by decide +kernel
theorem dX6_itemHere_48 : decode mX6_itemHere.2.1 48 = .ok (.bipush 99, 2) := by decide +kernel
theorem dX6_itemHere_50 : decode mX6_itemHere.2.1 50 = .ok (.bipush 101, 2) := by decide +kernel
theorem dX6_itemHere_52 : decode mX6_itemHere.2.1 52 = .ok (.invokevirtual 252, 3) := by decide +kernel
theorem dX6_itemHere_55 : decode mX6_itemHere.2.1 55 = .ok (.ifCond .eq 9, 3) := by decide +kernel
theorem dX6_itemHere_58 : decode mX6_itemHere.2.1 58 = .ok (.aload_n 0, 1) := by decide +kernel
theorem dX6_itemHere_59 : decode mX6_itemHere.2.1 59 = .ok (.iconst 1, 1) := by decide +kernel
theorem dX6_itemHere_60 : decode mX6_itemHere.2.1 60 = .ok (.invokevirtual 281, 3) := by decide +kernel
theorem dX6_itemHere_63 : decode mX6_itemHere.2.1 63 = .ok (.ireturn, 1) := by decide +kernel
theorem dX6_itemHere_64 : decode mX6_itemHere.2.1 64 = .ok (.aload_n 0, 1) := by decide +kernel
theorem dX6_itemHere_65 : decode mX6_itemHere.2.1 65 = .ok (.bipush 114, 2) := by decide +kernel
theorem dX6_itemHere_67 : decode mX6_itemHere.2.1 67 = .ok (.bipush 97, 2) := by decide +kernel
theorem dX6_itemHere_69 : decode mX6_itemHere.2.1 69 = .ok (.bipush 105, 2) := by decide +kernel
theorem dX6_itemHere_71 : decode mX6_itemHere.2.1 71 = .ok (.bipush 110, 2) := by decide +kernel
theorem dX6_itemHere_73 : decode mX6_itemHere.2.1 73 = .ok (.invokevirtual 252, 3) := by decide +kernel
theorem dX6_itemHere_76 : decode mX6_itemHere.2.1 76 = .ok (.ifCond .eq 11, 3) := by decide +kernel
theorem dX6_itemHere_79 : decode mX6_itemHere.2.1 79 = .ok (.aload_n 0, 1) := by decide +kernel
theorem dX6_itemHere_80 : decode mX6_itemHere.2.1 80 = .ok (.iconst 2, 1) := by decide +kernel
theorem dX6_itemHere_81 : decode mX6_itemHere.2.1 81 = .ok (.invokevirtual 281, 3) := by decide +kernel
theorem dX6_itemHere_84 : decode mX6_itemHere.2.1 84 = .ok (.goto 7, 3) := by decide +kernel
theorem dX6_itemHere_87 : decode mX6_itemHere.2.1 87 = .ok (.aload_n 0, 1) := by decide +kernel
theorem dX6_itemHere_88 : decode mX6_itemHere.2.1 88 = .ok (.invokevirtual 248, 3) := by decide +kernel
theorem dX6_itemHere_91 : decode mX6_itemHere.2.1 91 = .ok (.ireturn, 1) := by decide +kernel
theorem dX6_text_0 : decode mX6_text.2.1 0 = .ok (.aload_n 0, 1) := by decide +kernel
theorem dX6_text_1 : decode mX6_text.2.1 1 = .ok (.getfield 7, 3) := by decide +kernel
theorem dX6_text_4 : decode mX6_text.2.1 4 = .ok (.aload_n 0, 1) := by decide +kernel
theorem dX6_text_5 : decode mX6_text.2.1 5 = .ok (.getfield 16, 3) := by decide +kernel
theorem dX6_text_8 : decode mX6_text.2.1 8 = .ok (.invokestatic 162, 3) := by decide +kernel
theorem dX6_text_11 : decode mX6_text.2.1 11 = .ok (.aload_n 0, 1) := by decide +kernel
theorem dX6_text_12 : decode mX6_text.2.1 12 = .ok (.iconst 0, 1) := by decide +kernel
theorem dX6_text_13 : decode mX6_text.2.1 13 = .ok (.putfield 217, 3) := by decide +kernel
theorem dX6_text_16 : decode mX6_text.2.1 16 = .ok (.aload_n 0, 1) := by decide +kernel
theorem dX6_text_17 : decode mX6_text.2.1 17 = .ok (.invokevirtual 259, 3) := by decide +kernel
theorem dX6_text_20 : decode mX6_text.2.1 20 = .ok (.iconst 1, 1) := by decide +kernel
theorem dX6_text_21 : decode mX6_text.2.1 21 = .ok (.istore_n 1, 1) := by decide +kernel
theorem dX6_text_22 : decode mX6_text.2.1 22 = .ok (.aload_n 0, 1) := by decide +kernel
theorem dX6_text_23 : decode mX6_text.2.1 23 = .ok (.invokevirtual 284, 3) := by decide +kernel
theorem dX6_text_26 : decode mX6_text.2.1 26 = .ok (.istore_n 2, 1) := by decide +kernel
theorem dX6_text_27 : decode mX6_text.2.1 27 = .ok (.iload_n 2, 1) := by decide +kernel
theorem dX6_text_28 : decode mX6_text.2.1 28 = .ok (.ifCond .eq 26, 3) := by decide +kernel
theorem dX6_text_31 : decode mX6_text.2.1 31 = .ok (.aload_n 0, 1) := by decide +kernel
theorem dX6_text_32 : decode mX6_text.2.1 32 = .ok (.getfield 232, 3) := by decide +kernel
theorem dX6_text_35 : decode mX6_text.2.1 35 = .ok (.iconst 3, 1) := by decide +kernel
theorem dX6_text_36 : decode mX6_text.2.1 36 = .ok (.if_icmp .ne 18, 3) := by decide +kernel
theorem dX6_text_39 : decode mX6_text.2.1 39 = .ok (.aload_n 0, 1) := by decide +kernel
theorem dX6_text_40 : decode mX6_text.2.1 40 = .ok (.invokevirtual 259, 3) := by decide +kernel
theorem dX6_text_43 : decode mX6_text.2.1 43 = .ok (.aload_n 0, 1) := by decide +kernel
theorem dX6_text_44 : decode mX6_text.2.1 44 = .ok (.invokevirtual 284, 3) := by decide +kernel
theorem dX6_text_47 : decode mX6_text.2.1 47 = .ok (.istore_n 2, 1) := by decide +kernel
theorem dX6_text_48 : decode mX6_text.2.1 48 = .ok (.iinc 1 1, 3) := by decide +kernel
theorem dX6_text_51 : decode mX6_text.2.1 51 = .ok (.goto (-24), 3) := by decide +kernel
theorem dX6_text_54 : decode mX6_text.2.1 54 = .ok (.iload_n 2, 1) := by decide +kernel
theorem dX6_text_55 : decode mX6_text.2.1 55 = .ok (.ifCond .eq 21, 3) := by decide +kernel
theorem dX6_text_58 : decode mX6_text.2.1 58 = .ok (.aload_n 0, 1) := by decide +kernel
theorem dX6_text_59 : decode mX6_text.2.1 59 = .ok (.getfield 232, 3) := by decide +kernel
theorem dX6_text_62 : decode mX6_text.2.1 62 = .ok (.ifCond .eq 10, 3) := by decide +kernel
theorem dX6_text_65 : decode mX6_text.2.1 65 = .ok (.aload_n 0, 1) := by decide +kernel
theorem dX6_text_66 : decode mX6_text.2.1 66 = .ok (.invokevirtual 248, 3) := by decide +kernel
theorem dX6_text_69 : decode mX6_text.2.1 69 = .ok (.ifCond .eq 7, 3) := by decide +kernel
theorem dX6_text_72 : decode mX6_text.2.1 72 = .ok (.iconst 1, 1) := by decide +kernel
theorem dX6_text_73 : decode mX6_text.2.1 73 = .ok (.goto 4, 3) := by decide +kernel
theorem dX6_text_76 : decode mX6_text.2.1 76 = .ok (.iconst 0, 1) := by decide +kernel
theorem dX6_text_77 : decode mX6_text.2.1 77 = .ok (.istore_n 2, 1) := by decide +kernel
theorem dX6_text_78 : decode mX6_text.2.1 78 = .ok (.aload_n 0, 1) := by decide +kernel
theorem dX6_text_79 : decode mX6_text.2.1 79 = .ok (.iconst 0, 1) := by decide +kernel
theorem dX6_text_80 : decode mX6_text.2.1 80 = .ok (.putfield 214, 3) := by decide +kernel
theorem dX6_text_83 : decode mX6_text.2.1 83 = .ok (.iload_n 2, 1) := by decide +kernel
theorem dX6_text_84 : decode mX6_text.2.1 84 = .ok (.ifCond .ne 14, 3) := by decide +kernel
theorem dX6_text_87 : decode mX6_text.2.1 87 = .ok (.aload_n 0, 1) := by decide +kernel
theorem dX6_text_88 : decode mX6_text.2.1 88 = .ok (.getfield 16, 3) := by decide +kernel
theorem dX6_text_91 : decode mX6_text.2.1 91 = .ok (.aload_n 0, 1) := by decide +kernel
theorem dX6_text_92 : decode mX6_text.2.1 92 = .ok (.getfield 7, 3) := by decide +kernel
theorem dX6_text_95 : decode mX6_text.2.1 95 = .ok (.invokestatic 162, 3) := by decide +kernel
theorem dX6_text_98 : decode mX6_text.2.1 98 = .ok (.iload_n 2, 1) := by decide +kernel
theorem dX6_text_99 : decode mX6_text.2.1 99 = .ok (.ifCond .eq 7, 3) := by decide +kernel
theorem dX6_text_102 : decode mX6_text.2.1 102 = .ok (.iload_n 1, 1) := by decide +kernel
theorem dX6_text_103 : decode mX6_text.2.1 103 = .ok (.goto 9, 3) := by decide +kernel
theorem dX6_text_106 : decode mX6_text.2.1 106 = .ok (.iconst (-1), 1) := by decide +kernel
theorem dX6_text_107 : decode mX6_text.2.1 107 = .ok (.aload_n 0, 1) := by decide +kernel
theorem dX6_text_108 : decode mX6_text.2.1 108 = .ok (.getfield 238, 3) := by decide +kernel
theorem dX6_text_111 : decode mX6_text.2.1 111 = .ok (.isub, 1) := by decide +kernel
theorem dX6_text_112 : decode mX6_text.2.1 112 = .ok (.ireturn, 1) := by decide +kernel
theorem dX6_hold_0 : decode mX6_hold.2.1 0 = .ok (.iload_n 1, 1) := by decide +kernel
theorem dX6_hold_1 : decode mX6_hold.2.1 1 = .ok (.i2l, 1) := by decide +kernel
theorem dX6_hold_2 : decode mX6_hold.2.1 2 = .ok (.lconst 0, 1) := by decide +kernel
theorem dX6_hold_3 : decode mX6_hold.2.1 3 = .ok (.ldc2_w 98, 3) := by decide +kernel
theorem dX6_hold_6 : decode mX6_hold.2.1 6 = .ok (.invokestatic 51, 3) := by decide +kernel
theorem dX6_hold_9 : decode mX6_hold.2.1 9 = .ok (.ifCond .eq 16, 3) := by decide +kernel
theorem dX6_hold_12 : decode mX6_hold.2.1 12 = .ok (.iload_n 2, 1) := by decide +kernel
theorem dX6_hold_13 : decode mX6_hold.2.1 13 = .ok (.iconst (-1), 1) := by decide +kernel
theorem dX6_hold_14 : decode mX6_hold.2.1 14 = .ok (.if_icmp .eq 18, 3) := by decide +kernel
theorem dX6_hold_17 : decode mX6_hold.2.1 17 = .ok (.aload_n 0, 1) := by decide +kernel
theorem dX6_hold_18 : decode mX6_hold.2.1 18 = .ok (.iload_n 2, 1) := by decide +kernel
theorem dX6_hold_19 : decode mX6_hold.2.1 19 = .ok (.invokevirtual 82, 3) := by decide +kernel
theorem dX6_hold_22 : decode mX6_hold.2.1 22 = .ok (.ifCond .ne 10, 3) := by decide +kernel
theorem dX6_hold_25 : decode mX6_hold.2.1 25 = .ok (.aload_n 0, 1) := by decide +kernel
theorem dX6_hold_26 : decode mX6_hold.2.1 26 = .ok (.ldc 43, 2) := by decide +kernel
theorem dX6_hold_28 : decode mX6_hold.2.1 28 = .ok (.invokevirtual 45, 3) := by decide +kernel
theorem dX6_hold_31 : decode mX6_hold.2.1 31 = .ok (.ireturn, 1) := by decide +kernel
theorem dX6_hold_32 : decode mX6_hold.2.1 32 = .ok (.aload_n 0, 1) := by decide +kernel
theorem dX6_hold_33 : decode mX6_hold.2.1 33 = .ok (.getfield 7, 3) := by decide +kernel
theorem dX6_hold_36 : decode mX6_hold.2.1 36 = .ok (.bipush 46, 2) := by decide +kernel
theorem dX6_hold_38 : decode mX6_hold.2.1 38 = .ok (.iload_n 1, 1) := by decide +kernel
theorem dX6_hold_39 : decode mX6_hold.2.1 39 = .ok (.iadd, 1) := by decide +kernel
theorem dX6_hold_40 : decode mX6_hold.2.1 40 = .ok (.iload_n 2, 1) := by decide +kernel
theorem dX6_hold_41 : decode mX6_hold.2.1 41 = .ok (.iastore, 1) := by decide +kernel
theorem dX6_hold_42 : decode mX6_hold.2.1 42 = .ok (.iconst 1, 1) := by decide +kernel
theorem dX6_hold_43 : decode mX6_hold.2.1 43 = .ok (.ireturn, 1) := by decide +kernel
theorem dX6_isUnder_0 : decode mX6_isUnder.2.1 0 = .ok (.iload_n 1, 1) := by decide +kernel
theorem dX6_isUnder_1 : decode mX6_isUnder.2.1 1 = .ok (.ifCond .eq 44, 3) := by decide +kernel
theorem dX6_isUnder_4 : decode mX6_isUnder.2.1 4 = .ok (.iload_n 0, 1) := by decide +kernel
theorem dX6_isUnder_5 : decode mX6_isUnder.2.1 5 = .ok (.iload_n 1, 1) := by decide +kernel
theorem dX6_isUnder_6 : decode mX6_isUnder.2.1 6 = .ok (.if_icmp .eq 39, 3) := by decide +kernel
theorem dX6_isUnder_9 : decode mX6_isUnder.2.1 9 = .ok (.iload_n 1, 1) := by decide +kernel
theorem dX6_isUnder_10 : decode mX6_isUnder.2.1 10 = .ok (.iconst 2, 1) := by decide +kernel
theorem dX6_isUnder_11 : decode mX6_isUnder.2.1 11 = .ok (.if_icmp .ne 13, 3) := by decide +kernel
theorem dX6_isUnder_14 : decode mX6_isUnder.2.1 14 = .ok (.iload_n 0, 1) := by decide +kernel
theorem dX6_isUnder_15 : decode mX6_isUnder.2.1 15 = .ok (.iconst 3, 1) := by decide +kernel
theorem dX6_isUnder_16 : decode mX6_isUnder.2.1 16 = .ok (.if_icmp .eq 29, 3) := by decide +kernel
theorem dX6_isUnder_19 : decode mX6_isUnder.2.1 19 = .ok (.iload_n 0, 1) := by decide +kernel
theorem dX6_isUnder_20 : decode mX6_isUnder.2.1 20 = .ok (.iconst 4, 1) := by decide +kernel
theorem dX6_isUnder_21 : decode mX6_isUnder.2.1 21 = .ok (.if_icmp .eq 24, 3) := by decide +kernel
theorem dX6_isUnder_24 : decode mX6_isUnder.2.1 24 = .ok (.iload_n 1, 1) := by decide +kernel
theorem dX6_isUnder_25 : decode mX6_isUnder.2.1 25 = .ok (.iconst 3, 1) := by decide +kernel
theorem dX6_isUnder_26 : decode mX6_isUnder.2.1 26 = .ok (.if_icmp .ne 8, 3) := by decide +kernel
theorem dX6_isUnder_29 : decode mX6_isUnder.2.1 29 = .ok (.iload_n 0, 1) := by decide +kernel
theorem dX6_isUnder_30 : decode mX6_isUnder.2.1 30 = .ok (.iconst 4, 1) := by decide +kernel
theorem dX6_isUnder_31 : decode mX6_isUnder.2.1 31 = .ok (.if_icmp .eq 14, 3) := by decide +kernel
theorem dX6_isUnder_34 : decode mX6_isUnder.2.1 34 = .ok (.iload_n 1, 1) := by decide +kernel
theorem dX6_isUnder_35 : decode mX6_isUnder.2.1 35 = .ok (.iconst 1, 1) := by decide +kernel
theorem dX6_isUnder_36 : decode mX6_isUnder.2.1 36 = .ok (.if_icmp .ne 13, 3) := by decide +kernel
theorem dX6_isUnder_39 : decode mX6_isUnder.2.1 39 = .ok (.iload_n 0, 1) := by decide +kernel
theorem dX6_isUnder_40 : decode mX6_isUnder.2.1 40 = .ok (.bipush 6, 2) := by decide +kernel
theorem dX6_isUnder_42 : decode mX6_isUnder.2.1 42 = .ok (.if_icmp .ne 7, 3) := by decide +kernel
theorem dX6_isUnder_45 : decode mX6_isUnder.2.1 45 = .ok (.iconst 1, 1) := by decide +kernel
theorem dX6_isUnder_46 : decode mX6_isUnder.2.1 46 = .ok (.goto 4, 3) := by decide +kernel
theorem dX6_isUnder_49 : decode mX6_isUnder.2.1 49 = .ok (.iconst 0, 1) := by decide +kernel
theorem dX6_isUnder_50 : decode mX6_isUnder.2.1 50 = .ok (.ireturn, 1) := by decide +kernel
theorem dX6_as_0 : decode mX6_as.2.1 0 = .ok (.iload_n 1, 1) := by decide +kernel
theorem dX6_as_1 : decode mX6_as.2.1 1 = .ok (.i2l, 1) := by decide +kernel
theorem dX6_as_2 : decode mX6_as.2.1 2 = .ok (.lconst 0, 1) := by decide +kernel
theorem dX6_as_3 : decode mX6_as.2.1 3 = .ok (.ldc2_w 98, 3) := by decide +kernel
theorem dX6_as_6 : decode mX6_as.2.1 6 = .ok (.invokestatic 51, 3) := by decide +kernel
theorem dX6_as_9 : decode mX6_as.2.1 9 = .ok (.ifCond .eq 15, 3) := by decide +kernel
theorem dX6_as_12 : decode mX6_as.2.1 12 = .ok (.iload_n 2, 1) := by decide +kernel
theorem dX6_as_13 : decode mX6_as.2.1 13 = .ok (.i2l, 1) := by decide +kernel
theorem dX6_as_14 : decode mX6_as.2.1 14 = .ok (.lconst 0, 1) := by decide +kernel
theorem dX6_as_15 : decode mX6_as.2.1 15 = .ok (.ldc2_w 61, 3) := by decide +kernel
theorem dX6_as_18 : decode mX6_as.2.1 18 = .ok (.invokestatic 51, 3) := by decide +kernel
theorem dX6_as_21 : decode mX6_as.2.1 21 = .ok (.ifCond .ne 10, 3) := by decide +kernel
theorem dX6_as_24 : decode mX6_as.2.1 24 = .ok (.aload_n 0, 1) := by decide +kernel
theorem dX6_as_25 : decode mX6_as.2.1 25 = .ok (.ldc 43, 2) := by decide +kernel
theorem dX6_as_27 : decode mX6_as.2.1 27 = .ok (.invokevirtual 45, 3) := by decide +kernel
theorem dX6_as_30 : decode mX6_as.2.1 30 = .ok (.ireturn, 1) := by decide +kernel
theorem dX6_as_31 : decode mX6_as.2.1 31 = .ok (.aload_n 0, 1) := by decide +kernel
theorem dX6_as_32 : decode mX6_as.2.1 32 = .ok (.getfield 7, 3) := by decide +kernel
theorem dX6_as_35 : decode mX6_as.2.1 35 = .ok (.bipush 46, 2) := by decide +kernel
theorem dX6_as_37 : decode mX6_as.2.1 37 = .ok (.iload_n 1, 1) := by decide +kernel
theorem dX6_as_38 : decode mX6_as.2.1 38 = .ok (.iadd, 1) := by decide +kernel
theorem dX6_as_39 : decode mX6_as.2.1 39 = .ok (.iaload, 1) := by decide +kernel
theorem dX6_as_40 : decode mX6_as.2.1 40 = .ok (.istore_n 3, 1) := by decide +kernel
theorem dX6_as_41 : decode mX6_as.2.1 41 = .ok (.iload_n 3, 1) := by decide +kernel
theorem dX6_as_42 : decode mX6_as.2.1 42 = .ok (.ifCond .ge 11, 3) := by decide +kernel
theorem dX6_as_45 : decode mX6_as.2.1 45 = .ok (.aload_n 0, 1) := by decide +kernel
theorem dX6_as_46 : decode mX6_as.2.1 46 = .ok (.ldc_w 287, 3) := by decide +kernel
theorem dX6_as_49 : decode mX6_as.2.1 49 = .ok (.invokevirtual 45, 3) := by decide +kernel
theorem dX6_as_52 : decode mX6_as.2.1 52 = .ok (.ireturn, 1) := by decide +kernel
theorem dX6_as_53 : decode mX6_as.2.1 53 = .ok (.aload_n 0, 1) := by decide +kernel
theorem dX6_as_54 : decode mX6_as.2.1 54 = .ok (.iload_n 3, 1) := by decide +kernel
theorem dX6_as_55 : decode mX6_as.2.1 55 = .ok (.iconst 0, 1) := by decide +kernel
theorem dX6_as_56 : decode mX6_as.2.1 56 = .ok (.invokevirtual 70, 3) := by decide +kernel
theorem dX6_as_59 : decode mX6_as.2.1 59 = .ok (.iload_n 2, 1) := by decide +kernel
theorem dX6_as_60 : decode mX6_as.2.1 60 = .ok (.invokestatic 288, 3) := by decide +kernel
theorem dX6_as_63 : decode mX6_as.2.1 63 = .ok (.ifCond .eq 7, 3) := by decide +kernel
theorem dX6_as_66 : decode mX6_as.2.1 66 = .ok (.iload_n 3, 1) := by decide +kernel
theorem dX6_as_67 : decode mX6_as.2.1 67 = .ok (.goto 10, 3) := by decide +kernel
theorem dX6_as_70 : decode mX6_as.2.1 70 = .ok (.aload_n 0, 1) := by decide +kernel
theorem dX6_as_71 : decode mX6_as.2.1 71 = .ok (.ldc_w 291, 3) := by decide +kernel
theorem dX6_as_74 : decode mX6_as.2.1 74 = .ok (.invokevirtual 45, 3) := by decide +kernel
theorem dX6_as_77 : decode mX6_as.2.1 77 = .ok (.ireturn, 1) := by decide +kernel
theorem dX6_isSheet_0 : decode mX6_isSheet.2.1 0 = .ok (.iload_n 0, 1) := by decide +kernel
theorem dX6_isSheet_1 : decode mX6_isSheet.2.1 1 = .ok (.ifCond .lt 12, 3) := by decide +kernel
theorem dX6_isSheet_4 : decode mX6_isSheet.2.1 4 = .ok (.iload_n 0, 1) := by decide +kernel
theorem dX6_isSheet_5 : decode mX6_isSheet.2.1 5 = .ok (.iconst 4, 1) := by decide +kernel
theorem dX6_isSheet_6 : decode mX6_isSheet.2.1 6 = .ok (.if_icmp .ge 7, 3) := by decide +kernel
theorem dX6_isSheet_9 : decode mX6_isSheet.2.1 9 = .ok (.iconst 1, 1) := by decide +kernel
theorem dX6_isSheet_10 : decode mX6_isSheet.2.1 10 = .ok (.goto 4, 3) := by decide +kernel
theorem dX6_isSheet_13 : decode mX6_isSheet.2.1 13 = .ok (.iconst 0, 1) := by decide +kernel
theorem dX6_isSheet_14 : decode mX6_isSheet.2.1 14 = .ok (.ireturn, 1) := by decide +kernel
theorem dX6_sheet_0 : decode mX6_sheet.2.1 0 = .ok (.iload_n 1, 1) := by decide +kernel
theorem dX6_sheet_1 : decode mX6_sheet.2.1 1 = .ok (.invokestatic 292, 3) := by decide +kernel
theorem dX6_sheet_4 : decode mX6_sheet.2.1 4 = .ok (.ifCond .eq 25, 3) := by decide +kernel
theorem dX6_sheet_7 : decode mX6_sheet.2.1 7 = .ok (.iload_n 2, 1) := by decide +kernel
theorem dX6_sheet_8 : decode mX6_sheet.2.1 8 = .ok (.ifCond .eq 28, 3) := by decide +kernel
theorem dX6_sheet_11 : decode mX6_sheet.2.1 11 = .ok (.iload_n 2, 1) := by decide +kernel
theorem dX6_sheet_12 : decode mX6_sheet.2.1 12 = .ok (.bipush 8, 2) := by decide +kernel
theorem dX6_sheet_14 : decode mX6_sheet.2.1 14 = .ok (.if_icmp .eq 22, 3) := by decide +kernel
theorem dX6_sheet_17 : decode mX6_sheet.2.1 17 = .ok (.iload_n 2, 1) := by decide +kernel
theorem dX6_sheet_18 : decode mX6_sheet.2.1 18 = .ok (.bipush 16, 2) := by decide +kernel
theorem dX6_sheet_20 : decode mX6_sheet.2.1 20 = .ok (.if_icmp .eq 16, 3) := by decide +kernel
theorem dX6_sheet_23 : decode mX6_sheet.2.1 23 = .ok (.iload_n 2, 1) := by decide +kernel
theorem dX6_sheet_24 : decode mX6_sheet.2.1 24 = .ok (.bipush 32, 2) := by decide +kernel
theorem dX6_sheet_26 : decode mX6_sheet.2.1 26 = .ok (.if_icmp .eq 10, 3) := by decide +kernel
theorem dX6_sheet_29 : decode mX6_sheet.2.1 29 = .ok (.aload_n 0, 1) := by decide +kernel
theorem dX6_sheet_30 : decode mX6_sheet.2.1 30 = .ok (.ldc 43, 2) := by decide +kernel
theorem dX6_sheet_32 : decode mX6_sheet.2.1 32 = .ok (.invokevirtual 45, 3) := by decide +kernel
theorem dX6_sheet_35 : decode mX6_sheet.2.1 35 = .ok (.ireturn, 1) := by decide +kernel
theorem dX6_sheet_36 : decode mX6_sheet.2.1 36 = .ok (.iload_n 3, 1) := by decide +kernel
theorem dX6_sheet_37 : decode mX6_sheet.2.1 37 = .ok (.ifCond .ge 11, 3) := by decide +kernel
theorem dX6_sheet_40 : decode mX6_sheet.2.1 40 = .ok (.aload_n 0, 1) := by decide +kernel
theorem dX6_sheet_41 : decode mX6_sheet.2.1 41 = .ok (.ldc_w 295, 3) := by decide +kernel
theorem dX6_sheet_44 : decode mX6_sheet.2.1 44 = .ok (.invokevirtual 45, 3) := by decide +kernel
theorem dX6_sheet_47 : decode mX6_sheet.2.1 47 = .ok (.ireturn, 1) := by decide +kernel
theorem dX6_sheet_48 : decode mX6_sheet.2.1 48 = .ok (.iload_n 3, 1) := by decide +kernel
theorem dX6_sheet_49 : decode mX6_sheet.2.1 49 = .ok (.bipush 40, 2) := by decide +kernel
theorem dX6_sheet_51 : decode mX6_sheet.2.1 51 = .ok (.if_icmp .le 10, 3) := by decide +kernel
theorem dX6_sheet_54 : decode mX6_sheet.2.1 54 = .ok (.aload_n 0, 1) := by decide +kernel
theorem dX6_sheet_55 : decode mX6_sheet.2.1 55 = .ok (.ldc 43, 2) := by decide +kernel
theorem dX6_sheet_57 : decode mX6_sheet.2.1 57 = .ok (.invokevirtual 45, 3) := by decide +kernel
theorem dX6_sheet_60 : decode mX6_sheet.2.1 60 = .ok (.ireturn, 1) := by decide +kernel
theorem dX6_sheet_61 : decode mX6_sheet.2.1 61 = .ok (.aload_n 0, 1) := by decide +kernel
theorem dX6_sheet_62 : decode mX6_sheet.2.1 62 = .ok (.getfield 28, 3) := by decide +kernel
theorem dX6_sheet_65 : decode mX6_sheet.2.1 65 = .ok (.iload_n 1, 1) := by decide +kernel
theorem dX6_sheet_66 : decode mX6_sheet.2.1 66 = .ok (.iload_n 2, 1) := by decide +kernel
theorem dX6_sheet_67 : decode mX6_sheet.2.1 67 = .ok (.ifCond .ne 7, 3) := by decide +kernel
theorem dX6_sheet_70 : decode mX6_sheet.2.1 70 = .ok (.iconst (-1), 1) := by decide +kernel
theorem dX6_sheet_71 : decode mX6_sheet.2.1 71 = .ok (.goto 4, 3) := by decide +kernel
theorem dX6_sheet_74 : decode mX6_sheet.2.1 74 = .ok (.iload_n 2, 1) := by decide +kernel
theorem dX6_sheet_75 : decode mX6_sheet.2.1 75 = .ok (.iastore, 1) := by decide +kernel
theorem dX6_sheet_76 : decode mX6_sheet.2.1 76 = .ok (.aload_n 0, 1) := by decide +kernel
theorem dX6_sheet_77 : decode mX6_sheet.2.1 77 = .ok (.getfield 31, 3) := by decide +kernel
theorem dX6_sheet_80 : decode mX6_sheet.2.1 80 = .ok (.iload_n 1, 1) := by decide +kernel
theorem dX6_sheet_81 : decode mX6_sheet.2.1 81 = .ok (.iload_n 2, 1) := by decide +kernel
theorem dX6_sheet_82 : decode mX6_sheet.2.1 82 = .ok (.ifCond .ne 7, 3) := by decide +kernel
theorem dX6_sheet_85 : decode mX6_sheet.2.1 85 = .ok (.iconst 0, 1) := by decide +kernel
theorem dX6_sheet_86 : decode mX6_sheet.2.1 86 = .ok (.goto 4, 3) := by decide +kernel
theorem dX6_sheet_89 : decode mX6_sheet.2.1 89 = .ok (.iload_n 3, 1) := by decide +kernel
theorem dX6_sheet_90 : decode mX6_sheet.2.1 90 = .ok (.iastore, 1) := by decide +kernel
theorem dX6_sheet_91 : decode mX6_sheet.2.1 91 = .ok (.iconst 0, 1) := by decide +kernel
theorem dX6_sheet_92 : decode mX6_sheet.2.1 92 = .ok (.istore 4, 2) := by decide +kernel
theorem dX6_sheet_94 : decode mX6_sheet.2.1 94 = .ok (.iload 4, 2) := by decide +kernel
theorem dX6_sheet_96 : decode mX6_sheet.2.1 96 = .ok (.bipush 40, 2) := by decide +kernel
theorem dX6_sheet_98 : decode mX6_sheet.2.1 98 = .ok (.if_icmp .ge 22, 3) := by decide +kernel
theorem dX6_sheet_101 : decode mX6_sheet.2.1 101 = .ok (.aload_n 0, 1) := by decide +kernel
theorem dX6_sheet_102 : decode mX6_sheet.2.1 102 = .ok (.getfield 34, 3) := by decide +kernel
theorem dX6_sheet_105 : decode mX6_sheet.2.1 105 = .ok (.bipush 40, 2) := by decide +kernel
theorem dX6_sheet_107 : decode mX6_sheet.2.1 107 = .ok (.iload_n 1, 1) := by decide +kernel
theorem dX6_sheet_108 : decode mX6_sheet.2.1 108 = .ok (.imul, 1) := by decide +kernel
theorem dX6_sheet_109 : decode mX6_sheet.2.1 109 = .ok (.iload 4, 2) := by decide +kernel
theorem dX6_sheet_111 : decode mX6_sheet.2.1 111 = .ok (.iadd, 1) := by decide +kernel
theorem dX6_sheet_112 : decode mX6_sheet.2.1 112 = .ok (.iconst 0, 1) := by decide +kernel
theorem dX6_sheet_113 : decode mX6_sheet.2.1 113 = .ok (.iastore, 1) := by decide +kernel
theorem dX6_sheet_114 : decode mX6_sheet.2.1 114 = .ok (.iinc 4 1, 3) := by decide +kernel
theorem dX6_sheet_117 : decode mX6_sheet.2.1 117 = .ok (.goto (-23), 3) := by decide +kernel
theorem dX6_sheet_120 : decode mX6_sheet.2.1 120 = .ok (.aload_n 0, 1) := by decide +kernel
theorem dX6_sheet_121 : decode mX6_sheet.2.1 121 = .ok (.getfield 31, 3) := by decide +kernel
theorem dX6_sheet_124 : decode mX6_sheet.2.1 124 = .ok (.iload_n 1, 1) := by decide +kernel
theorem dX6_sheet_125 : decode mX6_sheet.2.1 125 = .ok (.iaload, 1) := by decide +kernel
theorem dX6_sheet_126 : decode mX6_sheet.2.1 126 = .ok (.ireturn, 1) := by decide +kernel
theorem dX6_write_0 : decode mX6_write.2.1 0 = .ok (.iload_n 1, 1) := by decide +kernel
theorem dX6_write_1 : decode mX6_write.2.1 1 = .ok (.invokestatic 292, 3) := by decide +kernel
theorem dX6_write_4 : decode mX6_write.2.1 4 = .ok (.ifCond .ne 10, 3) := by decide +kernel
theorem dX6_write_7 : decode mX6_write.2.1 7 = .ok (.aload_n 0, 1) := by decide +kernel
theorem dX6_write_8 : decode mX6_write.2.1 8 = .ok (.ldc 43, 2) := by decide +kernel
theorem dX6_write_10 : decode mX6_write.2.1 10 = .ok (.invokevirtual 45, 3) := by decide +kernel
theorem dX6_write_13 : decode mX6_write.2.1 13 = .ok (.ireturn, 1) := by decide +kernel
theorem dX6_write_14 : decode mX6_write.2.1 14 = .ok (.aload_n 0, 1) := by decide +kernel
theorem dX6_write_15 : decode mX6_write.2.1 15 = .ok (.getfield 28, 3) := by decide +kernel
theorem dX6_write_18 : decode mX6_write.2.1 18 = .ok (.iload_n 1, 1) := by decide +kernel
theorem dX6_write_19 : decode mX6_write.2.1 19 = .ok (.iaload, 1) := by decide +kernel
theorem dX6_write_20 : decode mX6_write.2.1 20 = .ok (.ifCond .ge 11, 3) := by decide +kernel
theorem dX6_write_23 : decode mX6_write.2.1 23 = .ok (.aload_n 0, 1) := by decide +kernel
theorem dX6_write_24 : decode mX6_write.2.1 24 = .ok (.ldc_w 287, 3) := by decide +kernel
theorem dX6_write_27 : decode mX6_write.2.1 27 = .ok (.invokevirtual 45, 3) := by decide +kernel
theorem dX6_write_30 : decode mX6_write.2.1 30 = .ok (.ireturn, 1) := by decide +kernel
theorem dX6_write_31 : decode mX6_write.2.1 31 = .ok (.iload_n 2, 1) := by decide +kernel
theorem dX6_write_32 : decode mX6_write.2.1 32 = .ok (.i2l, 1) := by decide +kernel
theorem dX6_write_33 : decode mX6_write.2.1 33 = .ok (.lconst 0, 1) := by decide +kernel
theorem dX6_write_34 : decode mX6_write.2.1 34 = .ok (.aload_n 0, 1) := by decide +kernel
theorem dX6_write_35 : decode mX6_write.2.1 35 = .ok (.getfield 31, 3) := by decide +kernel
theorem dX6_write_38 : decode mX6_write.2.1 38 = .ok (.iload_n 1, 1) := by decide +kernel
theorem dX6_write_39 : decode mX6_write.2.1 39 = .ok (.iaload, 1) := by decide +kernel
theorem dX6_write_40 : decode mX6_write.2.1 40 = .ok (.iconst 1, 1) := by decide +kernel
theorem dX6_write_41 : decode mX6_write.2.1 41 = .ok (.isub, 1) := by decide +kernel
theorem dX6_write_42 : decode mX6_write.2.1 42 = .ok (.i2l, 1) := by decide +kernel
theorem dX6_write_43 : decode mX6_write.2.1 43 = .ok (.invokestatic 51, 3) := by decide +kernel
theorem dX6_write_46 : decode mX6_write.2.1 46 = .ok (.ifCond .ne 10, 3) := by decide +kernel
theorem dX6_write_49 : decode mX6_write.2.1 49 = .ok (.aload_n 0, 1) := by decide +kernel
theorem dX6_write_50 : decode mX6_write.2.1 50 = .ok (.ldc 43, 2) := by decide +kernel
theorem dX6_write_52 : decode mX6_write.2.1 52 = .ok (.invokevirtual 45, 3) := by decide +kernel
theorem dX6_write_55 : decode mX6_write.2.1 55 = .ok (.ireturn, 1) := by decide +kernel
theorem dX6_write_56 : decode mX6_write.2.1 56 = .ok (.aload_n 0, 1) := by decide +kernel
theorem dX6_write_57 : decode mX6_write.2.1 57 = .ok (.getfield 34, 3) := by decide +kernel
theorem dX6_write_60 : decode mX6_write.2.1 60 = .ok (.bipush 40, 2) := by decide +kernel
theorem dX6_write_62 : decode mX6_write.2.1 62 = .ok (.iload_n 1, 1) := by decide +kernel
theorem dX6_write_63 : decode mX6_write.2.1 63 = .ok (.imul, 1) := by decide +kernel
theorem dX6_write_64 : decode mX6_write.2.1 64 = .ok (.iload_n 2, 1) := by decide +kernel
theorem dX6_write_65 : decode mX6_write.2.1 65 = .ok (.iadd, 1) := by decide +kernel
theorem dX6_write_66 : decode mX6_write.2.1 66 = .ok (.aload_n 0, 1) := by decide +kernel
theorem dX6_write_67 : decode mX6_write.2.1 67 = .ok (.getfield 28, 3) := by decide +kernel
theorem dX6_write_70 : decode mX6_write.2.1 70 = .ok (.iload_n 1, 1) := by decide +kernel
theorem dX6_write_71 : decode mX6_write.2.1 71 = .ok (.iaload, 1) := by decide +kernel
theorem dX6_write_72 : decode mX6_write.2.1 72 = .ok (.bipush 8, 2) := by decide +kernel
theorem dX6_write_74 : decode mX6_write.2.1 74 = .ok (.if_icmp .ne 8, 3) := by decide +kernel
theorem dX6_write_77 : decode mX6_write.2.1 77 = .ok (.iload_n 3, 1) := by decide +kernel
theorem dX6_write_78 : decode mX6_write.2.1 78 = .ok (.i2b, 1) := by decide +kernel
theorem dX6_write_79 : decode mX6_write.2.1 79 = .ok (.goto 20, 3) := by decide +kernel
theorem dX6_write_82 : decode mX6_write.2.1 82 = .ok (.aload_n 0, 1) := by decide +kernel
theorem dX6_write_83 : decode mX6_write.2.1 83 = .ok (.getfield 28, 3) := by decide +kernel
theorem dX6_write_86 : decode mX6_write.2.1 86 = .ok (.iload_n 1, 1) := by decide +kernel
theorem dX6_write_87 : decode mX6_write.2.1 87 = .ok (.iaload, 1) := by decide +kernel
theorem dX6_write_88 : decode mX6_write.2.1 88 = .ok (.bipush 16, 2) := by decide +kernel
theorem dX6_write_90 : decode mX6_write.2.1 90 = .ok (.if_icmp .ne 8, 3) := by decide +kernel
theorem dX6_write_93 : decode mX6_write.2.1 93 = .ok (.iload_n 3, 1) := by decide +kernel
theorem dX6_write_94 : decode mX6_write.2.1 94 = .ok (.i2s, 1) := by decide +kernel
theorem dX6_write_95 : decode mX6_write.2.1 95 = .ok (.goto 4, 3) := by decide +kernel
theorem dX6_write_98 : decode mX6_write.2.1 98 = .ok (.iload_n 3, 1) := by decide +kernel
theorem dX6_write_99 : decode mX6_write.2.1 99 = .ok (.iastore, 1) := by decide +kernel
theorem dX6_write_100 : decode mX6_write.2.1 100 = .ok (.iconst 1, 1) := by decide +kernel
theorem dX6_write_101 : decode mX6_write.2.1 101 = .ok (.ireturn, 1) := by decide +kernel
theorem dX6_copy_0 : decode mX6_copy.2.1 0 = .ok (.iload_n 1, 1) := by decide +kernel
theorem dX6_copy_1 : decode mX6_copy.2.1 1 = .ok (.invokestatic 292, 3) := by decide +kernel
theorem dX6_copy_4 : decode mX6_copy.2.1 4 = .ok (.ifCond .eq 10, 3) := by decide +kernel
theorem dX6_copy_7 : decode mX6_copy.2.1 7 = .ok (.iload_n 3, 1) := by decide +kernel
theorem dX6_copy_8 : decode mX6_copy.2.1 8 = .ok (.invokestatic 292, 3) := by decide +kernel
theorem dX6_copy_11 : decode mX6_copy.2.1 11 = .ok (.ifCond .ne 10, 3) := by decide +kernel
theorem dX6_copy_14 : decode mX6_copy.2.1 14 = .ok (.aload_n 0, 1) := by decide +kernel
theorem dX6_copy_15 : decode mX6_copy.2.1 15 = .ok (.ldc 43, 2) := by decide +kernel
theorem dX6_copy_17 : decode mX6_copy.2.1 17 = .ok (.invokevirtual 45, 3) := by decide +kernel
theorem dX6_copy_20 : decode mX6_copy.2.1 20 = .ok (.ireturn, 1) := by decide +kernel
theorem dX6_copy_21 : decode mX6_copy.2.1 21 = .ok (.aload_n 0, 1) := by decide +kernel
theorem dX6_copy_22 : decode mX6_copy.2.1 22 = .ok (.getfield 28, 3) := by decide +kernel
theorem dX6_copy_25 : decode mX6_copy.2.1 25 = .ok (.iload_n 1, 1) := by decide +kernel
theorem dX6_copy_26 : decode mX6_copy.2.1 26 = .ok (.iaload, 1) := by decide +kernel
theorem dX6_copy_27 : decode mX6_copy.2.1 27 = .ok (.ifCond .lt 12, 3) := by decide +kernel
theorem dX6_copy_30 : decode mX6_copy.2.1 30 = .ok (.aload_n 0, 1) := by decide +kernel
theorem dX6_copy_31 : decode mX6_copy.2.1 31 = .ok (.getfield 28, 3) := by decide +kernel
theorem dX6_copy_34 : decode mX6_copy.2.1 34 = .ok (.iload_n 3, 1) := by decide +kernel
theorem dX6_copy_35 : decode mX6_copy.2.1 35 = .ok (.iaload, 1) := by decide +kernel
theorem dX6_copy_36 : decode mX6_copy.2.1 36 = .ok (.ifCond .ge 11, 3) := by decide +kernel
theorem dX6_copy_39 : decode mX6_copy.2.1 39 = .ok (.aload_n 0, 1) := by decide +kernel
theorem dX6_copy_40 : decode mX6_copy.2.1 40 = .ok (.ldc_w 287, 3) := by decide +kernel
theorem dX6_copy_43 : decode mX6_copy.2.1 43 = .ok (.invokevirtual 45, 3) := by decide +kernel
theorem dX6_copy_46 : decode mX6_copy.2.1 46 = .ok (.ireturn, 1) := by decide +kernel
theorem dX6_copy_47 : decode mX6_copy.2.1 47 = .ok (.aload_n 0, 1) := by decide +kernel
theorem dX6_copy_48 : decode mX6_copy.2.1 48 = .ok (.getfield 28, 3) := by decide +kernel
theorem dX6_copy_51 : decode mX6_copy.2.1 51 = .ok (.iload_n 1, 1) := by decide +kernel
theorem dX6_copy_52 : decode mX6_copy.2.1 52 = .ok (.iaload, 1) := by decide +kernel
theorem dX6_copy_53 : decode mX6_copy.2.1 53 = .ok (.aload_n 0, 1) := by decide +kernel
theorem dX6_copy_54 : decode mX6_copy.2.1 54 = .ok (.getfield 28, 3) := by decide +kernel
theorem dX6_copy_57 : decode mX6_copy.2.1 57 = .ok (.iload_n 3, 1) := by decide +kernel
theorem dX6_copy_58 : decode mX6_copy.2.1 58 = .ok (.iaload, 1) := by decide +kernel
theorem dX6_copy_59 : decode mX6_copy.2.1 59 = .ok (.if_icmp .eq 11, 3) := by decide +kernel
theorem dX6_copy_62 : decode mX6_copy.2.1 62 = .ok (.aload_n 0, 1) := by decide +kernel
theorem dX6_copy_63 : decode mX6_copy.2.1 63 = .ok (.ldc_w 291, 3) := by decide +kernel
theorem dX6_copy_66 : decode mX6_copy.2.1 66 = .ok (.invokevirtual 45, 3) := by decide +kernel
theorem dX6_copy_69 : decode mX6_copy.2.1 69 = .ok (.ireturn, 1) := by decide +kernel
theorem dX6_copy_70 : decode mX6_copy.2.1 70 = .ok (.iload_n 2, 1) := by decide +kernel
theorem dX6_copy_71 : decode mX6_copy.2.1 71 = .ok (.ifCond .lt 40, 3) := by decide +kernel
theorem dX6_copy_74 : decode mX6_copy.2.1 74 = .ok (.iload 4, 2) := by decide +kernel
theorem dX6_copy_76 : decode mX6_copy.2.1 76 = .ok (.ifCond .lt 35, 3) := by decide +kernel
theorem dX6_copy_79 : decode mX6_copy.2.1 79 = .ok (.iload 5, 2) := by decide +kernel
theorem dX6_copy_81 : decode mX6_copy.2.1 81 = .ok (.ifCond .lt 30, 3) := by decide +kernel
theorem dX6_copy_84 : decode mX6_copy.2.1 84 = .ok (.iload 5, 2) := by decide +kernel
theorem dX6_copy_86 : decode mX6_copy.2.1 86 = .ok (.aload_n 0, 1) := by decide +kernel
theorem dX6_copy_87 : decode mX6_copy.2.1 87 = .ok (.getfield 31, 3) := by decide +kernel
theorem dX6_copy_90 : decode mX6_copy.2.1 90 = .ok (.iload_n 1, 1) := by decide +kernel
theorem dX6_copy_91 : decode mX6_copy.2.1 91 = .ok (.iaload, 1) := by decide +kernel
theorem dX6_copy_92 : decode mX6_copy.2.1 92 = .ok (.iload_n 2, 1) := by decide +kernel
theorem dX6_copy_93 : decode mX6_copy.2.1 93 = .ok (.isub, 1) := by decide +kernel
theorem dX6_copy_94 : decode mX6_copy.2.1 94 = .ok (.if_icmp .gt 17, 3) := by decide +kernel
theorem dX6_copy_97 : decode mX6_copy.2.1 97 = .ok (.iload 5, 2) := by decide +kernel
theorem dX6_copy_99 : decode mX6_copy.2.1 99 = .ok (.aload_n 0, 1) := by decide +kernel
theorem dX6_copy_100 : decode mX6_copy.2.1 100 = .ok (.getfield 31, 3) := by decide +kernel
theorem dX6_copy_103 : decode mX6_copy.2.1 103 = .ok (.iload_n 3, 1) := by decide +kernel
theorem dX6_copy_104 : decode mX6_copy.2.1 104 = .ok (.iaload, 1) := by decide +kernel
theorem dX6_copy_105 : decode mX6_copy.2.1 105 = .ok (.iload 4, 2) := by decide +kernel
theorem dX6_copy_107 : decode mX6_copy.2.1 107 = .ok (.isub, 1) := by decide +kernel
theorem dX6_copy_108 : decode mX6_copy.2.1 108 = .ok (.if_icmp .le 10, 3) := by decide +kernel
theorem dX6_copy_111 : decode mX6_copy.2.1 111 = .ok (.aload_n 0, 1) := by decide +kernel
theorem dX6_copy_112 : decode mX6_copy.2.1 112 = .ok (.ldc 43, 2) := by decide +kernel
theorem dX6_copy_114 : decode mX6_copy.2.1 114 = .ok (.invokevirtual 45, 3) := by decide +kernel
theorem dX6_copy_117 : decode mX6_copy.2.1 117 = .ok (.ireturn, 1) := by decide +kernel
theorem dX6_copy_118 : decode mX6_copy.2.1 118 = .ok (.bipush 40, 2) := by decide +kernel
theorem dX6_copy_120 : decode mX6_copy.2.1 120 = .ok (.iload_n 1, 1) := by decide +kernel
theorem dX6_copy_121 : decode mX6_copy.2.1 121 = .ok (.imul, 1) := by decide +kernel
theorem dX6_copy_122 : decode mX6_copy.2.1 122 = .ok (.iload_n 2, 1) := by decide +kernel
theorem dX6_copy_123 : decode mX6_copy.2.1 123 = .ok (.iadd, 1) := by decide +kernel
theorem dX6_copy_124 : decode mX6_copy.2.1 124 = .ok (.istore 6, 2) := by decide +kernel
theorem dX6_copy_126 : decode mX6_copy.2.1 126 = .ok (.bipush 40, 2) := by decide +kernel
theorem dX6_copy_128 : decode mX6_copy.2.1 128 = .ok (.iload_n 3, 1) := by decide +kernel
theorem dX6_copy_129 : decode mX6_copy.2.1 129 = .ok (.imul, 1) := by decide +kernel
theorem dX6_copy_130 : decode mX6_copy.2.1 130 = .ok (.iload 4, 2) := by decide +kernel
theorem dX6_copy_132 : decode mX6_copy.2.1 132 = .ok (.iadd, 1) := by decide +kernel
theorem dX6_copy_133 : decode mX6_copy.2.1 133 = .ok (.istore 7, 2) := by decide +kernel
theorem dX6_copy_135 : decode mX6_copy.2.1 135 = .ok (.iconst 0, 1) := by decide +kernel
theorem dX6_copy_136 : decode mX6_copy.2.1 136 = .ok (.istore 8, 2) := by decide +kernel
theorem dX6_copy_138 : decode mX6_copy.2.1 138 = .ok (.iload 8, 2) := by decide +kernel
theorem dX6_copy_140 : decode mX6_copy.2.1 140 = .ok (.iload 5, 2) := by decide +kernel
theorem dX6_copy_142 : decode mX6_copy.2.1 142 = .ok (.if_icmp .ge 50, 3) := by decide +kernel
theorem dX6_copy_145 : decode mX6_copy.2.1 145 = .ok (.iload 6, 2) := by decide +kernel
theorem dX6_copy_147 : decode mX6_copy.2.1 147 = .ok (.iload 7, 2) := by decide +kernel
theorem dX6_copy_149 : decode mX6_copy.2.1 149 = .ok (.if_icmp .ge 13, 3) := by decide +kernel
theorem dX6_copy_152 : decode mX6_copy.2.1 152 = .ok (.iload 5, 2) := by decide +kernel
theorem dX6_copy_154 : decode mX6_copy.2.1 154 = .ok (.iconst 1, 1) := by decide +kernel
theorem dX6_copy_155 : decode mX6_copy.2.1 155 = .ok (.isub, 1) := by decide +kernel
theorem dX6_copy_156 : decode mX6_copy.2.1 156 = .ok (.iload 8, 2) := by decide +kernel
theorem dX6_copy_158 : decode mX6_copy.2.1 158 = .ok (.isub, 1) := by decide +kernel
theorem dX6_copy_159 : decode mX6_copy.2.1 159 = .ok (.goto 5, 3) := by decide +kernel
theorem dX6_copy_162 : decode mX6_copy.2.1 162 = .ok (.iload 8, 2) := by decide +kernel
theorem dX6_copy_164 : decode mX6_copy.2.1 164 = .ok (.istore 9, 2) := by decide +kernel
theorem dX6_copy_166 : decode mX6_copy.2.1 166 = .ok (.aload_n 0, 1) := by decide +kernel
theorem dX6_copy_167 : decode mX6_copy.2.1 167 = .ok (.getfield 34, 3) := by decide +kernel
theorem dX6_copy_170 : decode mX6_copy.2.1 170 = .ok (.iload 7, 2) := by decide +kernel
theorem dX6_copy_172 : decode mX6_copy.2.1 172 = .ok (.iload 9, 2) := by decide +kernel
theorem dX6_copy_174 : decode mX6_copy.2.1 174 = .ok (.iadd, 1) := by decide +kernel
theorem dX6_copy_175 : decode mX6_copy.2.1 175 = .ok (.aload_n 0, 1) := by decide +kernel
theorem dX6_copy_176 : decode mX6_copy.2.1 176 = .ok (.getfield 34, 3) := by decide +kernel
theorem dX6_copy_179 : decode mX6_copy.2.1 179 = .ok (.iload 6, 2) := by decide +kernel
theorem dX6_copy_181 : decode mX6_copy.2.1 181 = .ok (.iload 9, 2) := by decide +kernel
theorem dX6_copy_183 : decode mX6_copy.2.1 183 = .ok (.iadd, 1) := by decide +kernel
theorem dX6_copy_184 : decode mX6_copy.2.1 184 = .ok (.iaload, 1) := by decide +kernel
theorem dX6_copy_185 : decode mX6_copy.2.1 185 = .ok (.iastore, 1) := by decide +kernel
theorem dX6_copy_186 : decode mX6_copy.2.1 186 = .ok (.iinc 8 1, 3) := by decide +kernel
theorem dX6_copy_189 : decode mX6_copy.2.1 189 = .ok (.goto (-51), 3) := by decide +kernel
theorem dX6_copy_192 : decode mX6_copy.2.1 192 = .ok (.iload 5, 2) := by decide +kernel
theorem dX6_copy_194 : decode mX6_copy.2.1 194 = .ok (.ireturn, 1) := by decide +kernel
theorem dX6_wants_0 : decode mX6_wants.2.1 0 = .ok (.iload_n 1, 1) := by decide +kernel
theorem dX6_wants_1 : decode mX6_wants.2.1 1 = .ok (.invokestatic 292, 3) := by decide +kernel
theorem dX6_wants_4 : decode mX6_wants.2.1 4 = .ok (.ifCond .ne 8, 3) := by decide +kernel
theorem dX6_wants_7 : decode mX6_wants.2.1 7 = .ok (.ldc 43, 2) := by decide +kernel
theorem dX6_wants_9 : decode mX6_wants.2.1 9 = .ok (.goto 19, 3) := by decide +kernel
theorem dX6_wants_12 : decode mX6_wants.2.1 12 = .ok (.aload_n 0, 1) := by decide +kernel
theorem dX6_wants_13 : decode mX6_wants.2.1 13 = .ok (.getfield 28, 3) := by decide +kernel
theorem dX6_wants_16 : decode mX6_wants.2.1 16 = .ok (.iload_n 1, 1) := by decide +kernel
theorem dX6_wants_17 : decode mX6_wants.2.1 17 = .ok (.iaload, 1) := by decide +kernel
theorem dX6_wants_18 : decode mX6_wants.2.1 18 = .ok (.ifCond .ge 9, 3) := by decide +kernel
theorem dX6_wants_21 : decode mX6_wants.2.1 21 = .ok (.ldc_w 287, 3) := by decide +kernel
theorem dX6_wants_24 : decode mX6_wants.2.1 24 = .ok (.goto 4, 3) := by decide +kernel
theorem dX6_wants_27 : decode mX6_wants.2.1 27 = .ok (.iconst 0, 1) := by decide +kernel
theorem dX6_wants_28 : decode mX6_wants.2.1 28 = .ok (.ireturn, 1) := by decide +kernel
theorem dX6_load_0 : decode mX6_load.2.1 0 = .ok (.aload_n 0, 1) := by decide +kernel
theorem dX6_load_1 : decode mX6_load.2.1 1 = .ok (.iload_n 1, 1) := by decide +kernel
theorem dX6_load_2 : decode mX6_load.2.1 2 = .ok (.invokevirtual 195, 3) := by decide +kernel
theorem dX6_load_5 : decode mX6_load.2.1 5 = .ok (.ifCond .eq 13, 3) := by decide +kernel
theorem dX6_load_8 : decode mX6_load.2.1 8 = .ok (.aload_n 0, 1) := by decide +kernel
theorem dX6_load_9 : decode mX6_load.2.1 9 = .ok (.aload_n 0, 1) := by decide +kernel
theorem dX6_load_10 : decode mX6_load.2.1 10 = .ok (.iload_n 1, 1) := by decide +kernel
theorem dX6_load_11 : decode mX6_load.2.1 11 = .ok (.invokevirtual 195, 3) := by decide +kernel
theorem dX6_load_14 : decode mX6_load.2.1 14 = .ok (.invokevirtual 45, 3) := by decide +kernel
theorem dX6_load_17 : decode mX6_load.2.1 17 = .ok (.ireturn, 1) := by decide +kernel
theorem dX6_load_18 : decode mX6_load.2.1 18 = .ok (.iconst 0, 1) := by decide +kernel
theorem dX6_load_19 : decode mX6_load.2.1 19 = .ok (.istore_n 2, 1) := by decide +kernel
theorem dX6_load_20 : decode mX6_load.2.1 20 = .ok (.iload_n 2, 1) := by decide +kernel
theorem dX6_load_21 : decode mX6_load.2.1 21 = .ok (.aload_n 0, 1) := by decide +kernel
theorem dX6_load_22 : decode mX6_load.2.1 22 = .ok (.getfield 31, 3) := by decide +kernel
theorem dX6_load_25 : decode mX6_load.2.1 25 = .ok (.iload_n 1, 1) := by decide +kernel
theorem dX6_load_26 : decode mX6_load.2.1 26 = .ok (.iaload, 1) := by decide +kernel
theorem dX6_load_27 : decode mX6_load.2.1 27 = .ok (.if_icmp .ge 63, 3) := by decide +kernel
theorem dX6_load_30 : decode mX6_load.2.1 30 = .ok (.aload_n 0, 1) := by decide +kernel
theorem dX6_load_31 : decode mX6_load.2.1 31 = .ok (.iload_n 2, 1) := by decide +kernel
theorem dX6_load_32 : decode mX6_load.2.1 32 = .ok (.invokevirtual 82, 3) := by decide +kernel
theorem dX6_load_35 : decode mX6_load.2.1 35 = .ok (.ifCond .eq 55, 3) := by decide +kernel
theorem dX6_load_38 : decode mX6_load.2.1 38 = .ok (.aload_n 0, 1) := by decide +kernel
theorem dX6_load_39 : decode mX6_load.2.1 39 = .ok (.getfield 34, 3) := by decide +kernel
theorem dX6_load_42 : decode mX6_load.2.1 42 = .ok (.bipush 40, 2) := by decide +kernel
theorem dX6_load_44 : decode mX6_load.2.1 44 = .ok (.iload_n 1, 1) := by decide +kernel
theorem dX6_load_45 : decode mX6_load.2.1 45 = .ok (.imul, 1) := by decide +kernel
theorem dX6_load_46 : decode mX6_load.2.1 46 = .ok (.iload_n 2, 1) := by decide +kernel
theorem dX6_load_47 : decode mX6_load.2.1 47 = .ok (.iadd, 1) := by decide +kernel
theorem dX6_load_48 : decode mX6_load.2.1 48 = .ok (.iaload, 1) := by decide +kernel
theorem dX6_load_49 : decode mX6_load.2.1 49 = .ok (.i2l, 1) := by decide +kernel
theorem dX6_load_50 : decode mX6_load.2.1 50 = .ok (.lconst 0, 1) := by decide +kernel
theorem dX6_load_51 : decode mX6_load.2.1 51 = .ok (.ldc2_w 63, 3) := by decide +kernel
theorem dX6_load_54 : decode mX6_load.2.1 54 = .ok (.invokestatic 51, 3) := by decide +kernel
theorem dX6_load_57 : decode mX6_load.2.1 57 = .ok (.ifCond .eq 33, 3) := by decide +kernel
theorem dX6_load_60 : decode mX6_load.2.1 60 = .ok (.aload_n 0, 1) := by decide +kernel
theorem dX6_load_61 : decode mX6_load.2.1 61 = .ok (.getfield 7, 3) := by decide +kernel
theorem dX6_load_64 : decode mX6_load.2.1 64 = .ok (.bipush 6, 2) := by decide +kernel
theorem dX6_load_66 : decode mX6_load.2.1 66 = .ok (.iconst 5, 1) := by decide +kernel
theorem dX6_load_67 : decode mX6_load.2.1 67 = .ok (.iload_n 2, 1) := by decide +kernel
theorem dX6_load_68 : decode mX6_load.2.1 68 = .ok (.imul, 1) := by decide +kernel
theorem dX6_load_69 : decode mX6_load.2.1 69 = .ok (.iadd, 1) := by decide +kernel
theorem dX6_load_70 : decode mX6_load.2.1 70 = .ok (.iconst 1, 1) := by decide +kernel
theorem dX6_load_71 : decode mX6_load.2.1 71 = .ok (.iadd, 1) := by decide +kernel
theorem dX6_load_72 : decode mX6_load.2.1 72 = .ok (.aload_n 0, 1) := by decide +kernel
theorem dX6_load_73 : decode mX6_load.2.1 73 = .ok (.getfield 34, 3) := by decide +kernel
theorem dX6_load_76 : decode mX6_load.2.1 76 = .ok (.bipush 40, 2) := by decide +kernel
theorem dX6_load_78 : decode mX6_load.2.1 78 = .ok (.iload_n 1, 1) := by decide +kernel
theorem dX6_load_79 : decode mX6_load.2.1 79 = .ok (.imul, 1) := by decide +kernel
theorem dX6_load_80 : decode mX6_load.2.1 80 = .ok (.iload_n 2, 1) := by decide +kernel
theorem dX6_load_81 : decode mX6_load.2.1 81 = .ok (.iadd, 1) := by decide +kernel
theorem dX6_load_82 : decode mX6_load.2.1 82 = .ok (.iaload, 1) := by decide +kernel
theorem dX6_load_83 : decode mX6_load.2.1 83 = .ok (.iastore, 1) := by decide +kernel
theorem dX6_load_84 : decode mX6_load.2.1 84 = .ok (.iinc 2 1, 3) := by decide +kernel
theorem dX6_load_87 : decode mX6_load.2.1 87 = .ok (.goto (-67), 3) := by decide +kernel
theorem dX6_load_90 : decode mX6_load.2.1 90 = .ok (.iload_n 2, 1) := by decide +kernel
theorem dX6_load_91 : decode mX6_load.2.1 91 = .ok (.ireturn, 1) := by decide +kernel
theorem dX6_judge_0 : decode mX6_judge.2.1 0 = .ok (.aload_n 0, 1) := by decide +kernel
theorem dX6_judge_1 : decode mX6_judge.2.1 1 = .ok (.iload_n 1, 1) := by decide +kernel
theorem dX6_judge_2 : decode mX6_judge.2.1 2 = .ok (.invokevirtual 195, 3) := by decide +kernel
theorem dX6_judge_5 : decode mX6_judge.2.1 5 = .ok (.ifCond .eq 13, 3) := by decide +kernel
theorem dX6_judge_8 : decode mX6_judge.2.1 8 = .ok (.aload_n 0, 1) := by decide +kernel
theorem dX6_judge_9 : decode mX6_judge.2.1 9 = .ok (.aload_n 0, 1) := by decide +kernel
theorem dX6_judge_10 : decode mX6_judge.2.1 10 = .ok (.iload_n 1, 1) := by decide +kernel
theorem dX6_judge_11 : decode mX6_judge.2.1 11 = .ok (.invokevirtual 195, 3) := by decide +kernel
theorem dX6_judge_14 : decode mX6_judge.2.1 14 = .ok (.invokevirtual 45, 3) := by decide +kernel
theorem dX6_judge_17 : decode mX6_judge.2.1 17 = .ok (.ireturn, 1) := by decide +kernel
theorem dX6_judge_18 : decode mX6_judge.2.1 18 = .ok (.iconst 0, 1) := by decide +kernel
theorem dX6_judge_19 : decode mX6_judge.2.1 19 = .ok (.istore_n 2, 1) := by decide +kernel
theorem dX6_judge_20 : decode mX6_judge.2.1 20 = .ok (.iload_n 2, 1) := by decide +kernel
theorem dX6_judge_21 : decode mX6_judge.2.1 21 = .ok (.aload_n 0, 1) := by decide +kernel
theorem dX6_judge_22 : decode mX6_judge.2.1 22 = .ok (.getfield 31, 3) := by decide +kernel
theorem dX6_judge_25 : decode mX6_judge.2.1 25 = .ok (.iload_n 1, 1) := by decide +kernel
theorem dX6_judge_26 : decode mX6_judge.2.1 26 = .ok (.iaload, 1) := by decide +kernel
theorem dX6_judge_27 : decode mX6_judge.2.1 27 = .ok (.if_icmp .ge 36, 3) := by decide +kernel
theorem dX6_judge_30 : decode mX6_judge.2.1 30 = .ok (.aload_n 0, 1) := by decide +kernel
theorem dX6_judge_31 : decode mX6_judge.2.1 31 = .ok (.iload_n 2, 1) := by decide +kernel
theorem dX6_judge_32 : decode mX6_judge.2.1 32 = .ok (.invokevirtual 82, 3) := by decide +kernel
theorem dX6_judge_35 : decode mX6_judge.2.1 35 = .ok (.ifCond .eq 28, 3) := by decide +kernel
theorem dX6_judge_38 : decode mX6_judge.2.1 38 = .ok (.aload_n 0, 1) := by decide +kernel
theorem dX6_judge_39 : decode mX6_judge.2.1 39 = .ok (.getfield 34, 3) := by decide +kernel
theorem dX6_judge_42 : decode mX6_judge.2.1 42 = .ok (.bipush 40, 2) := by decide +kernel
theorem dX6_judge_44 : decode mX6_judge.2.1 44 = .ok (.iload_n 1, 1) := by decide +kernel
theorem dX6_judge_45 : decode mX6_judge.2.1 45 = .ok (.imul, 1) := by decide +kernel
theorem dX6_judge_46 : decode mX6_judge.2.1 46 = .ok (.iload_n 2, 1) := by decide +kernel
theorem dX6_judge_47 : decode mX6_judge.2.1 47 = .ok (.iadd, 1) := by decide +kernel
theorem dX6_judge_48 : decode mX6_judge.2.1 48 = .ok (.iaload, 1) := by decide +kernel
theorem dX6_judge_49 : decode mX6_judge.2.1 49 = .ok (.aload_n 0, 1) := by decide +kernel
theorem dX6_judge_50 : decode mX6_judge.2.1 50 = .ok (.iload_n 2, 1) := by decide +kernel
theorem dX6_judge_51 : decode mX6_judge.2.1 51 = .ok (.invokevirtual 88, 3) := by decide +kernel
theorem dX6_judge_54 : decode mX6_judge.2.1 54 = .ok (.if_icmp .ne 9, 3) := by decide +kernel
theorem dX6_judge_57 : decode mX6_judge.2.1 57 = .ok (.iinc 2 1, 3) := by decide +kernel
theorem dX6_judge_60 : decode mX6_judge.2.1 60 = .ok (.goto (-40), 3) := by decide +kernel
theorem dX6_judge_63 : decode mX6_judge.2.1 63 = .ok (.iload_n 2, 1) := by decide +kernel
theorem dX6_judge_64 : decode mX6_judge.2.1 64 = .ok (.aload_n 0, 1) := by decide +kernel
theorem dX6_judge_65 : decode mX6_judge.2.1 65 = .ok (.getfield 31, 3) := by decide +kernel
theorem dX6_judge_68 : decode mX6_judge.2.1 68 = .ok (.iload_n 1, 1) := by decide +kernel
theorem dX6_judge_69 : decode mX6_judge.2.1 69 = .ok (.iaload, 1) := by decide +kernel
theorem dX6_judge_70 : decode mX6_judge.2.1 70 = .ok (.if_icmp .ge 9, 3) := by decide +kernel
theorem dX6_judge_73 : decode mX6_judge.2.1 73 = .ok (.iconst 1, 1) := by decide +kernel
theorem dX6_judge_74 : decode mX6_judge.2.1 74 = .ok (.iload_n 2, 1) := by decide +kernel
theorem dX6_judge_75 : decode mX6_judge.2.1 75 = .ok (.iadd, 1) := by decide +kernel
theorem dX6_judge_76 : decode mX6_judge.2.1 76 = .ok (.goto 4, 3) := by decide +kernel
theorem dX6_judge_79 : decode mX6_judge.2.1 79 = .ok (.iconst 0, 1) := by decide +kernel
theorem dX6_judge_80 : decode mX6_judge.2.1 80 = .ok (.ireturn, 1) := by decide +kernel
theorem dX6_image_0 : decode mX6_image.2.1 0 = .ok (.aload_n 0, 1) := by decide +kernel
theorem dX6_image_1 : decode mX6_image.2.1 1 = .ok (.getfield 7, 3) := by decide +kernel
theorem dX6_image_4 : decode mX6_image.2.1 4 = .ok (.aload_n 0, 1) := by decide +kernel
theorem dX6_image_5 : decode mX6_image.2.1 5 = .ok (.getfield 13, 3) := by decide +kernel
theorem dX6_image_8 : decode mX6_image.2.1 8 = .ok (.invokestatic 162, 3) := by decide +kernel
theorem dX6_image_11 : decode mX6_image.2.1 11 = .ok (.aload_n 0, 1) := by decide +kernel
theorem dX6_image_12 : decode mX6_image.2.1 12 = .ok (.iconst 1, 1) := by decide +kernel
theorem dX6_image_13 : decode mX6_image.2.1 13 = .ok (.putfield 296, 3) := by decide +kernel
theorem dX6_image_16 : decode mX6_image.2.1 16 = .ok (.iconst 1, 1) := by decide +kernel
theorem dX6_image_17 : decode mX6_image.2.1 17 = .ok (.ireturn, 1) := by decide +kernel
theorem dX6_undo_0 : decode mX6_undo.2.1 0 = .ok (.aload_n 0, 1) := by decide +kernel
theorem dX6_undo_1 : decode mX6_undo.2.1 1 = .ok (.getfield 296, 3) := by decide +kernel
theorem dX6_undo_4 : decode mX6_undo.2.1 4 = .ok (.ifCond .ne 10, 3) := by decide +kernel
theorem dX6_undo_7 : decode mX6_undo.2.1 7 = .ok (.aload_n 0, 1) := by decide +kernel
theorem dX6_undo_8 : decode mX6_undo.2.1 8 = .ok (.ldc 44, 2) := by decide +kernel
theorem dX6_undo_10 : decode mX6_undo.2.1 10 = .ok (.invokevirtual 45, 3) := by decide +kernel
theorem dX6_undo_13 : decode mX6_undo.2.1 13 = .ok (.ireturn, 1) := by decide +kernel
theorem dX6_undo_14 : decode mX6_undo.2.1 14 = .ok (.aload_n 0, 1) := by decide +kernel
theorem dX6_undo_15 : decode mX6_undo.2.1 15 = .ok (.getfield 13, 3) := by decide +kernel
theorem dX6_undo_18 : decode mX6_undo.2.1 18 = .ok (.aload_n 0, 1) := by decide +kernel
theorem dX6_undo_19 : decode mX6_undo.2.1 19 = .ok (.getfield 7, 3) := by decide +kernel
theorem dX6_undo_22 : decode mX6_undo.2.1 22 = .ok (.invokestatic 162, 3) := by decide +kernel
theorem dX6_undo_25 : decode mX6_undo.2.1 25 = .ok (.aload_n 0, 1) := by decide +kernel
theorem dX6_undo_26 : decode mX6_undo.2.1 26 = .ok (.getfield 7, 3) := by decide +kernel
theorem dX6_undo_29 : decode mX6_undo.2.1 29 = .ok (.iconst 1, 1) := by decide +kernel
theorem dX6_undo_30 : decode mX6_undo.2.1 30 = .ok (.iaload, 1) := by decide +kernel
theorem dX6_undo_31 : decode mX6_undo.2.1 31 = .ok (.ireturn, 1) := by decide +kernel
theorem dX6_tear_0 : decode mX6_tear.2.1 0 = .ok (.aload_n 0, 1) := by decide +kernel
theorem dX6_tear_1 : decode mX6_tear.2.1 1 = .ok (.getfield 296, 3) := by decide +kernel
theorem dX6_tear_4 : decode mX6_tear.2.1 4 = .ok (.istore_n 1, 1) := by decide +kernel
theorem dX6_tear_5 : decode mX6_tear.2.1 5 = .ok (.aload_n 0, 1) := by decide +kernel
theorem dX6_tear_6 : decode mX6_tear.2.1 6 = .ok (.iconst 0, 1) := by decide +kernel
theorem dX6_tear_7 : decode mX6_tear.2.1 7 = .ok (.putfield 296, 3) := by decide +kernel
theorem dX6_tear_10 : decode mX6_tear.2.1 10 = .ok (.iload_n 1, 1) := by decide +kernel
theorem dX6_tear_11 : decode mX6_tear.2.1 11 = .ok (.ifCond .eq 7, 3) := by decide +kernel
theorem dX6_tear_14 : decode mX6_tear.2.1 14 = .ok (.iconst 1, 1) := by decide +kernel
theorem dX6_tear_15 : decode mX6_tear.2.1 15 = .ok (.goto 4, 3) := by decide +kernel
theorem dX6_tear_18 : decode mX6_tear.2.1 18 = .ok (.iconst 0, 1) := by decide +kernel
theorem dX6_tear_19 : decode mX6_tear.2.1 19 = .ok (.ireturn, 1) := by decide +kernel
theorem dX6_count_0 : decode mX6_count.2.1 0 = .ok (.iconst 0, 1) := by decide +kernel
theorem dX6_count_1 : decode mX6_count.2.1 1 = .ok (.istore_n 2, 1) := by decide +kernel
theorem dX6_count_2 : decode mX6_count.2.1 2 = .ok (.iload_n 1, 1) := by decide +kernel
theorem dX6_count_3 : decode mX6_count.2.1 3 = .ok (.tableswitch 127 0 7 #[45, 52, 59, 67, 73, 79, 84, 91], 45) := by decide +kernel
theorem dX6_count_48 : decode mX6_count.2.1 48 = .ok (.aload_n 0, 1) := by decide +kernel
theorem dX6_count_49 : decode mX6_count.2.1 49 = .ok (.getfield 7, 3) := by decide +kernel
theorem dX6_count_52 : decode mX6_count.2.1 52 = .ok (.iconst 1, 1) := by decide +kernel
theorem dX6_count_53 : decode mX6_count.2.1 53 = .ok (.iaload, 1) := by decide +kernel
theorem dX6_count_54 : decode mX6_count.2.1 54 = .ok (.ireturn, 1) := by decide +kernel
theorem dX6_count_55 : decode mX6_count.2.1 55 = .ok (.aload_n 0, 1) := by decide +kernel
theorem dX6_count_56 : decode mX6_count.2.1 56 = .ok (.getfield 7, 3) := by decide +kernel
theorem dX6_count_59 : decode mX6_count.2.1 59 = .ok (.iconst 0, 1) := by decide +kernel
theorem dX6_count_60 : decode mX6_count.2.1 60 = .ok (.iaload, 1) := by decide +kernel
theorem dX6_count_61 : decode mX6_count.2.1 61 = .ok (.ireturn, 1) := by decide +kernel
theorem dX6_count_62 : decode mX6_count.2.1 62 = .ok (.aload_n 0, 1) := by decide +kernel
theorem dX6_count_63 : decode mX6_count.2.1 63 = .ok (.invokevirtual 119, 3) := by decide +kernel
theorem dX6_count_66 : decode mX6_count.2.1 66 = .ok (.invokestatic 168, 3) := by decide +kernel
theorem dX6_count_69 : decode mX6_count.2.1 69 = .ok (.ireturn, 1) := by decide +kernel
theorem dX6_count_70 : decode mX6_count.2.1 70 = .ok (.aload_n 0, 1) := by decide +kernel
theorem dX6_count_71 : decode mX6_count.2.1 71 = .ok (.iconst 2, 1) := by decide +kernel
theorem dX6_count_72 : decode mX6_count.2.1 72 = .ok (.invokevirtual 153, 3) := by decide +kernel
theorem dX6_count_75 : decode mX6_count.2.1 75 = .ok (.ireturn, 1) := by decide +kernel
theorem dX6_count_76 : decode mX6_count.2.1 76 = .ok (.aload_n 0, 1) := by decide +kernel
theorem dX6_count_77 : decode mX6_count.2.1 77 = .ok (.iconst 3, 1) := by decide +kernel
theorem dX6_count_78 : decode mX6_count.2.1 78 = .ok (.invokevirtual 153, 3) := by decide +kernel
theorem dX6_count_81 : decode mX6_count.2.1 81 = .ok (.ireturn, 1) := by decide +kernel
theorem dX6_count_82 : decode mX6_count.2.1 82 = .ok (.aload_n 0, 1) := by decide +kernel
theorem dX6_count_83 : decode mX6_count.2.1 83 = .ok (.getfield 214, 3) := by decide +kernel
theorem dX6_count_86 : decode mX6_count.2.1 86 = .ok (.ireturn, 1) := by decide +kernel
theorem dX6_count_87 : decode mX6_count.2.1 87 = .ok (.aload_n 0, 1) := by decide +kernel
theorem dX6_count_88 : decode mX6_count.2.1 88 = .ok (.getfield 7, 3) := by decide +kernel
theorem dX6_count_91 : decode mX6_count.2.1 91 = .ok (.iconst 2, 1) := by decide +kernel
theorem dX6_count_92 : decode mX6_count.2.1 92 = .ok (.iaload, 1) := by decide +kernel
theorem dX6_count_93 : decode mX6_count.2.1 93 = .ok (.ireturn, 1) := by decide +kernel
theorem dX6_count_94 : decode mX6_count.2.1 94 = .ok (.iconst 0, 1) := by decide +kernel
theorem dX6_count_95 : decode mX6_count.2.1 95 = .ok (.istore_n 3, 1) := by decide +kernel
theorem dX6_count_96 : decode mX6_count.2.1 96 = .ok (.iload_n 3, 1) := by decide +kernel
theorem dX6_count_97 : decode mX6_count.2.1 97 = .ok (.bipush 10, 2) := by decide +kernel
theorem dX6_count_99 : decode mX6_count.2.1 99 = .ok (.if_icmp .ge 29, 3) := by decide +kernel
theorem dX6_count_102 : decode mX6_count.2.1 102 = .ok (.iload_n 2, 1) := by decide +kernel
theorem dX6_count_103 : decode mX6_count.2.1 103 = .ok (.aload_n 0, 1) := by decide +kernel
theorem dX6_count_104 : decode mX6_count.2.1 104 = .ok (.getfield 7, 3) := by decide +kernel
theorem dX6_count_107 : decode mX6_count.2.1 107 = .ok (.bipush 46, 2) := by decide +kernel
theorem dX6_count_109 : decode mX6_count.2.1 109 = .ok (.iload_n 3, 1) := by decide +kernel
theorem dX6_count_110 : decode mX6_count.2.1 110 = .ok (.iadd, 1) := by decide +kernel
theorem dX6_count_111 : decode mX6_count.2.1 111 = .ok (.iaload, 1) := by decide +kernel
theorem dX6_count_112 : decode mX6_count.2.1 112 = .ok (.ifCond .ge 7, 3) := by decide +kernel
theorem dX6_count_115 : decode mX6_count.2.1 115 = .ok (.iconst 0, 1) := by decide +kernel
theorem dX6_count_116 : decode mX6_count.2.1 116 = .ok (.goto 4, 3) := by decide +kernel
theorem dX6_count_119 : decode mX6_count.2.1 119 = .ok (.iconst 1, 1) := by decide +kernel
theorem dX6_count_120 : decode mX6_count.2.1 120 = .ok (.iadd, 1) := by decide +kernel
theorem dX6_count_121 : decode mX6_count.2.1 121 = .ok (.istore_n 2, 1) := by decide +kernel
theorem dX6_count_122 : decode mX6_count.2.1 122 = .ok (.iinc 3 1, 3) := by decide +kernel
theorem dX6_count_125 : decode mX6_count.2.1 125 = .ok (.goto (-29), 3) := by decide +kernel
theorem dX6_count_128 : decode mX6_count.2.1 128 = .ok (.iload_n 2, 1) := by decide +kernel
theorem dX6_count_129 : decode mX6_count.2.1 129 = .ok (.ireturn, 1) := by decide +kernel
theorem dX6_count_130 : decode mX6_count.2.1 130 = .ok (.aload_n 0, 1) := by decide +kernel
theorem dX6_count_131 : decode mX6_count.2.1 131 = .ok (.ldc 43, 2) := by decide +kernel
theorem dX6_count_133 : decode mX6_count.2.1 133 = .ok (.invokevirtual 45, 3) := by decide +kernel
theorem dX6_count_136 : decode mX6_count.2.1 136 = .ok (.ireturn, 1) := by decide +kernel
theorem dX6_status_0 : decode mX6_status.2.1 0 = .ok (.iload_n 1, 1) := by decide +kernel
theorem dX6_status_1 : decode mX6_status.2.1 1 = .ok (.i2l, 1) := by decide +kernel
theorem dX6_status_2 : decode mX6_status.2.1 2 = .ok (.ldc2_w 300, 3) := by decide +kernel
theorem dX6_status_5 : decode mX6_status.2.1 5 = .ok (.ldc2_w 61, 3) := by decide +kernel
theorem dX6_status_8 : decode mX6_status.2.1 8 = .ok (.invokestatic 51, 3) := by decide +kernel
theorem dX6_status_11 : decode mX6_status.2.1 11 = .ok (.ifCond .eq 14, 3) := by decide +kernel
theorem dX6_status_14 : decode mX6_status.2.1 14 = .ok (.aload_n 0, 1) := by decide +kernel
theorem dX6_status_15 : decode mX6_status.2.1 15 = .ok (.getfield 22, 3) := by decide +kernel
theorem dX6_status_18 : decode mX6_status.2.1 18 = .ok (.iload_n 1, 1) := by decide +kernel
theorem dX6_status_19 : decode mX6_status.2.1 19 = .ok (.iconst 1, 1) := by decide +kernel
theorem dX6_status_20 : decode mX6_status.2.1 20 = .ok (.iadd, 1) := by decide +kernel
theorem dX6_status_21 : decode mX6_status.2.1 21 = .ok (.iaload, 1) := by decide +kernel
theorem dX6_status_22 : decode mX6_status.2.1 22 = .ok (.goto 9, 3) := by decide +kernel
theorem dX6_status_25 : decode mX6_status.2.1 25 = .ok (.aload_n 0, 1) := by decide +kernel
theorem dX6_status_26 : decode mX6_status.2.1 26 = .ok (.ldc 43, 2) := by decide +kernel
theorem dX6_status_28 : decode mX6_status.2.1 28 = .ok (.invokevirtual 45, 3) := by decide +kernel
theorem dX6_status_31 : decode mX6_status.2.1 31 = .ok (.ireturn, 1) := by decide +kernel
end
section
/-! decode rows -/
theorem dJ6_bitCount_0f7a4_0 : decode mJ6_bitCount_0f7a4.2.1 0 = .ok (.iload_n 0, 1) := by decide +kernel
theorem dJ6_bitCount_0f7a4_1 : decode mJ6_bitCount_0f7a4.2.1 1 = .ok (.iload_n 0, 1) := by decide +kernel
theorem dJ6_bitCount_0f7a4_2 : decode mJ6_bitCount_0f7a4.2.1 2 = .ok (.iconst 1, 1) := by decide +kernel
theorem dJ6_bitCount_0f7a4_3 : decode mJ6_bitCount_0f7a4.2.1 3 = .ok (.iushr, 1) := by decide +kernel
theorem dJ6_bitCount_0f7a4_4 : decode mJ6_bitCount_0f7a4.2.1 4 = .ok (.ldc_w 265, 3) := by decide +kernel
theorem dJ6_bitCount_0f7a4_7 : decode mJ6_bitCount_0f7a4.2.1 7 = .ok (.iand, 1) := by decide +kernel
theorem dJ6_bitCount_0f7a4_8 : decode mJ6_bitCount_0f7a4.2.1 8 = .ok (.isub, 1) := by decide +kernel
theorem dJ6_bitCount_0f7a4_9 : decode mJ6_bitCount_0f7a4.2.1 9 = .ok (.istore_n 0, 1) := by decide +kernel
theorem dJ6_bitCount_0f7a4_10 : decode mJ6_bitCount_0f7a4.2.1 10 = .ok (.iload_n 0, 1) := by decide +kernel
theorem dJ6_bitCount_0f7a4_11 : decode mJ6_bitCount_0f7a4.2.1 11 = .ok (.ldc_w 266, 3) := by decide +kernel
theorem dJ6_bitCount_0f7a4_14 : decode mJ6_bitCount_0f7a4.2.1 14 = .ok (.iand, 1) := by decide +kernel
theorem dJ6_bitCount_0f7a4_15 : decode mJ6_bitCount_0f7a4.2.1 15 = .ok (.iload_n 0, 1) := by decide +kernel
theorem dJ6_bitCount_0f7a4_16 : decode mJ6_bitCount_0f7a4.2.1 16 = .ok (.iconst 2, 1) := by decide +kernel
theorem dJ6_bitCount_0f7a4_17 : decode mJ6_bitCount_0f7a4.2.1 17 = .ok (.iushr, 1) := by decide +kernel
theorem dJ6_bitCount_0f7a4_18 : decode mJ6_bitCount_0f7a4.2.1 18 = .ok (.ldc_w 266, 3) := by decide +kernel
theorem dJ6_bitCount_0f7a4_21 : decode mJ6_bitCount_0f7a4.2.1 21 = .ok (.iand, 1) := by decide +kernel
theorem dJ6_bitCount_0f7a4_22 : decode mJ6_bitCount_0f7a4.2.1 22 = .ok (.iadd, 1) := by decide +kernel
theorem dJ6_bitCount_0f7a4_23 : decode mJ6_bitCount_0f7a4.2.1 23 = .ok (.istore_n 0, 1) := by decide +kernel
theorem dJ6_bitCount_0f7a4_24 : decode mJ6_bitCount_0f7a4.2.1 24 = .ok (.iload_n 0, 1) := by decide +kernel
theorem dJ6_bitCount_0f7a4_25 : decode mJ6_bitCount_0f7a4.2.1 25 = .ok (.iload_n 0, 1) := by decide +kernel
theorem dJ6_bitCount_0f7a4_26 : decode mJ6_bitCount_0f7a4.2.1 26 = .ok (.iconst 4, 1) := by decide +kernel
theorem dJ6_bitCount_0f7a4_27 : decode mJ6_bitCount_0f7a4.2.1 27 = .ok (.iushr, 1) := by decide +kernel
theorem dJ6_bitCount_0f7a4_28 : decode mJ6_bitCount_0f7a4.2.1 28 = .ok (.iadd, 1) := by decide +kernel
theorem dJ6_bitCount_0f7a4_29 : decode mJ6_bitCount_0f7a4.2.1 29 = .ok (.ldc_w 267, 3) := by decide +kernel
theorem dJ6_bitCount_0f7a4_32 : decode mJ6_bitCount_0f7a4.2.1 32 = .ok (.iand, 1) := by decide +kernel
theorem dJ6_bitCount_0f7a4_33 : decode mJ6_bitCount_0f7a4.2.1 33 = .ok (.istore_n 0, 1) := by decide +kernel
theorem dJ6_bitCount_0f7a4_34 : decode mJ6_bitCount_0f7a4.2.1 34 = .ok (.iload_n 0, 1) := by decide +kernel
theorem dJ6_bitCount_0f7a4_35 : decode mJ6_bitCount_0f7a4.2.1 35 = .ok (.iload_n 0, 1) := by decide +kernel
theorem dJ6_bitCount_0f7a4_36 : decode mJ6_bitCount_0f7a4.2.1 36 = .ok (.bipush 8, 2) := by decide +kernel
theorem dJ6_bitCount_0f7a4_38 : decode mJ6_bitCount_0f7a4.2.1 38 = .ok (.iushr, 1) := by decide +kernel
theorem dJ6_bitCount_0f7a4_39 : decode mJ6_bitCount_0f7a4.2.1 39 = .ok (.iadd, 1) := by decide +kernel
theorem dJ6_bitCount_0f7a4_40 : decode mJ6_bitCount_0f7a4.2.1 40 = .ok (.istore_n 0, 1) := by decide +kernel
theorem dJ6_bitCount_0f7a4_41 : decode mJ6_bitCount_0f7a4.2.1 41 = .ok (.iload_n 0, 1) := by decide +kernel
theorem dJ6_bitCount_0f7a4_42 : decode mJ6_bitCount_0f7a4.2.1 42 = .ok (.iload_n 0, 1) := by decide +kernel
theorem dJ6_bitCount_0f7a4_43 : decode mJ6_bitCount_0f7a4.2.1 43 = .ok (.bipush 16, 2) := by decide +kernel
theorem dJ6_bitCount_0f7a4_45 : decode mJ6_bitCount_0f7a4.2.1 45 = .ok (.iushr, 1) := by decide +kernel
theorem dJ6_bitCount_0f7a4_46 : decode mJ6_bitCount_0f7a4.2.1 46 = .ok (.iadd, 1) := by decide +kernel
theorem dJ6_bitCount_0f7a4_47 : decode mJ6_bitCount_0f7a4.2.1 47 = .ok (.istore_n 0, 1) := by decide +kernel
theorem dJ6_bitCount_0f7a4_48 : decode mJ6_bitCount_0f7a4.2.1 48 = .ok (.iload_n 0, 1) := by decide +kernel
theorem dJ6_bitCount_0f7a4_49 : decode mJ6_bitCount_0f7a4.2.1 49 = .ok (.bipush 63, 2) := by decide +kernel
theorem dJ6_bitCount_0f7a4_51 : decode mJ6_bitCount_0f7a4.2.1 51 = .ok (.iand, 1) := by decide +kernel
theorem dJ6_bitCount_0f7a4_52 : decode mJ6_bitCount_0f7a4.2.1 52 = .ok (.ireturn, 1) := by decide +kernel
theorem dJ0_length_8abf5_0 : decode mJ0_length_8abf5.2.1 0 = .ok (.aload_n 0, 1) := by decide +kernel
theorem dJ0_length_8abf5_1 : decode mJ0_length_8abf5.2.1 1 = .ok (.getfield 9, 3) := by decide +kernel
theorem dJ0_length_8abf5_4 : decode mJ0_length_8abf5.2.1 4 = .ok (.arraylength, 1) := by decide +kernel
theorem dJ0_length_8abf5_5 : decode mJ0_length_8abf5.2.1 5 = .ok (.aload_n 0, 1) := by decide +kernel
theorem dJ0_length_8abf5_6 : decode mJ0_length_8abf5.2.1 6 = .ok (.invokevirtual 335, 3) := by decide +kernel
theorem dJ0_length_8abf5_9 : decode mJ0_length_8abf5.2.1 9 = .ok (.ishr, 1) := by decide +kernel
theorem dJ0_length_8abf5_10 : decode mJ0_length_8abf5.2.1 10 = .ok (.ireturn, 1) := by decide +kernel
theorem dJ0_charAt_5068e_0 : decode mJ0_charAt_5068e.2.1 0 = .ok (.aload_n 0, 1) := by decide +kernel
theorem dJ0_charAt_5068e_1 : decode mJ0_charAt_5068e.2.1 1 = .ok (.invokevirtual 492, 3) := by decide +kernel
theorem dJ0_charAt_5068e_4 : decode mJ0_charAt_5068e.2.1 4 = .ok (.ifCond .eq 12, 3) := by decide +kernel
theorem dJ0_charAt_5068e_7 : decode mJ0_charAt_5068e.2.1 7 = .ok (.aload_n 0, 1) := by decide +kernel
theorem dJ0_charAt_5068e_8 : decode mJ0_charAt_5068e.2.1 8 = .ok (.getfield 9, 3) := by decide +kernel
theorem dJ0_charAt_5068e_11 : decode mJ0_charAt_5068e.2.1 11 = .ok (.iload_n 1, 1) := by decide +kernel
theorem dJ0_charAt_5068e_12 : decode mJ0_charAt_5068e.2.1 12 = .ok (.invokestatic 495, 3) := by decide +kernel
theorem dJ0_charAt_5068e_15 : decode mJ0_charAt_5068e.2.1 15 = .ok (.ireturn, 1) := by decide +kernel
theorem dJ0_charAt_5068e_16 : decode mJ0_charAt_5068e.2.1 16 = .ok (.aload_n 0, 1) := by decide +kernel
theorem dJ0_charAt_5068e_17 : decode mJ0_charAt_5068e.2.1 17 = .ok (.getfield 9, 3) := by decide +kernel
theorem dJ0_charAt_5068e_20 : decode mJ0_charAt_5068e.2.1 20 = .ok (.iload_n 1, 1) := by decide +kernel
theorem dJ0_charAt_5068e_21 : decode mJ0_charAt_5068e.2.1 21 = .ok (.invokestatic 498, 3) := by decide +kernel
theorem dJ0_charAt_5068e_24 : decode mJ0_charAt_5068e.2.1 24 = .ok (.ireturn, 1) := by decide +kernel
theorem dJ0_coder_7d493_0 : decode mJ0_coder_7d493.2.1 0 = .ok (.getstatic 38, 3) := by decide +kernel
theorem dJ0_coder_7d493_3 : decode mJ0_coder_7d493.2.1 3 = .ok (.ifCond .eq 10, 3) := by decide +kernel
theorem dJ0_coder_7d493_6 : decode mJ0_coder_7d493.2.1 6 = .ok (.aload_n 0, 1) := by decide +kernel
theorem dJ0_coder_7d493_7 : decode mJ0_coder_7d493.2.1 7 = .ok (.getfield 15, 3) := by decide +kernel
theorem dJ0_coder_7d493_10 : decode mJ0_coder_7d493.2.1 10 = .ok (.goto 4, 3) := by decide +kernel
theorem dJ0_coder_7d493_13 : decode mJ0_coder_7d493.2.1 13 = .ok (.iconst 1, 1) := by decide +kernel
theorem dJ0_coder_7d493_14 : decode mJ0_coder_7d493.2.1 14 = .ok (.ireturn, 1) := by decide +kernel
theorem dJ0_isLatin1_aae02_0 : decode mJ0_isLatin1_aae02.2.1 0 = .ok (.getstatic 38, 3) := by decide +kernel
theorem dJ0_isLatin1_aae02_3 : decode mJ0_isLatin1_aae02.2.1 3 = .ok (.ifCond .eq 14, 3) := by decide +kernel
theorem dJ0_isLatin1_aae02_6 : decode mJ0_isLatin1_aae02.2.1 6 = .ok (.aload_n 0, 1) := by decide +kernel
theorem dJ0_isLatin1_aae02_7 : decode mJ0_isLatin1_aae02.2.1 7 = .ok (.getfield 15, 3) := by decide +kernel
theorem dJ0_isLatin1_aae02_10 : decode mJ0_isLatin1_aae02.2.1 10 = .ok (.ifCond .ne 7, 3) := by decide +kernel
theorem dJ0_isLatin1_aae02_13 : decode mJ0_isLatin1_aae02.2.1 13 = .ok (.iconst 1, 1) := by decide +kernel
theorem dJ0_isLatin1_aae02_14 : decode mJ0_isLatin1_aae02.2.1 14 = .ok (.goto 4, 3) := by decide +kernel
theorem dJ0_isLatin1_aae02_17 : decode mJ0_isLatin1_aae02.2.1 17 = .ok (.iconst 0, 1) := by decide +kernel
theorem dJ0_isLatin1_aae02_18 : decode mJ0_isLatin1_aae02.2.1 18 = .ok (.ireturn, 1) := by decide +kernel
theorem dJ0_checkIndex_df160_0 : decode mJ0_checkIndex_df160.2.1 0 = .ok (.iload_n 0, 1) := by decide +kernel
theorem dJ0_checkIndex_df160_1 : decode mJ0_checkIndex_df160.2.1 1 = .ok (.iload_n 1, 1) := by decide +kernel
theorem dJ0_checkIndex_df160_2 : decode mJ0_checkIndex_df160.2.1 2 = .ok (.getstatic 1053, 3) := by decide +kernel
theorem dJ0_checkIndex_df160_5 : decode mJ0_checkIndex_df160.2.1 5 = .ok (.invokestatic 1059, 3) := by decide +kernel
theorem dJ0_checkIndex_df160_8 : decode mJ0_checkIndex_df160.2.1 8 = .ok (.pop, 1) := by decide +kernel
theorem dJ0_checkIndex_df160_9 : decode mJ0_checkIndex_df160.2.1 9 = .ok (.return_, 1) := by decide +kernel
theorem dJ1_charAt_3b067_0 : decode mJ1_charAt_3b067.2.1 0 = .ok (.iload_n 1, 1) := by decide +kernel
theorem dJ1_charAt_3b067_1 : decode mJ1_charAt_3b067.2.1 1 = .ok (.aload_n 0, 1) := by decide +kernel
theorem dJ1_charAt_3b067_2 : decode mJ1_charAt_3b067.2.1 2 = .ok (.arraylength, 1) := by decide +kernel
theorem dJ1_charAt_3b067_3 : decode mJ1_charAt_3b067.2.1 3 = .ok (.invokestatic 9, 3) := by decide +kernel
theorem dJ1_charAt_3b067_6 : decode mJ1_charAt_3b067.2.1 6 = .ok (.aload_n 0, 1) := by decide +kernel
theorem dJ1_charAt_3b067_7 : decode mJ1_charAt_3b067.2.1 7 = .ok (.iload_n 1, 1) := by decide +kernel
theorem dJ1_charAt_3b067_8 : decode mJ1_charAt_3b067.2.1 8 = .ok (.baload, 1) := by decide +kernel
theorem dJ1_charAt_3b067_9 : decode mJ1_charAt_3b067.2.1 9 = .ok (.sipush 255, 3) := by decide +kernel
theorem dJ1_charAt_3b067_12 : decode mJ1_charAt_3b067.2.1 12 = .ok (.iand, 1) := by decide +kernel
theorem dJ1_charAt_3b067_13 : decode mJ1_charAt_3b067.2.1 13 = .ok (.i2c, 1) := by decide +kernel
theorem dJ1_charAt_3b067_14 : decode mJ1_charAt_3b067.2.1 14 = .ok (.ireturn, 1) := by decide +kernel
theorem dJ2_getChar_3b067_0 : decode mJ2_getChar_3b067.2.1 0 = .ok (.getstatic 44, 3) := by decide +kernel
theorem dJ2_getChar_3b067_3 : decode mJ2_getChar_3b067.2.1 3 = .ok (.ifCond .ne 25, 3) := by decide +kernel
theorem dJ2_getChar_3b067_6 : decode mJ2_getChar_3b067.2.1 6 = .ok (.iload_n 1, 1) := by decide +kernel
theorem dJ2_getChar_3b067_7 : decode mJ2_getChar_3b067.2.1 7 = .ok (.ifCond .lt 11, 3) := by decide +kernel
theorem dJ2_getChar_3b067_10 : decode mJ2_getChar_3b067.2.1 10 = .ok (.iload_n 1, 1) := by decide +kernel
theorem dJ2_getChar_3b067_11 : decode mJ2_getChar_3b067.2.1 11 = .ok (.aload_n 0, 1) := by decide +kernel
theorem dJ2_getChar_3b067_12 : decode mJ2_getChar_3b067.2.1 12 = .ok (.invokestatic 48, 3) := by decide +kernel
theorem dJ2_getChar_3b067_15 : decode mJ2_getChar_3b067.2.1 15 = .ok (.if_icmp .lt 13, 3) := by decide +kernel
theorem dJ2_getChar_3b067_18 : decode mJ2_getChar_3b067.2.1 18 = .ok (.new 52, 3) := by decide +kernel
theorem dJ2_getChar_3b067_21 : decode mJ2_getChar_3b067.2.1 21 = .ok (.dup, 1) := by decide +kernel
theorem dJ2_getChar_3b067_22 : decode mJ2_getChar_3b067.2.1 22 = .ok (.ldc 54, 2) := by decide +kernel
theorem dJ2_getChar_3b067_24 : decode mJ2_getChar_3b067.2.1 24 = .ok (.invokespecial 56, 3) := by decide +kernel
theorem dJ2_getChar_3b067_27 : decode mJ2_getChar_3b067.2.1 27 = .ok (.athrow, 1) := by decide +kernel
theorem dJ2_getChar_3b067_28 : decode mJ2_getChar_3b067.2.1 28 = .ok (.iload_n 1, 1) := by decide +kernel
theorem dJ2_getChar_3b067_29 : decode mJ2_getChar_3b067.2.1 29 = .ok (.iconst 1, 1) := by decide +kernel
theorem dJ2_getChar_3b067_30 : decode mJ2_getChar_3b067.2.1 30 = .ok (.ishl, 1) := by decide +kernel
theorem dJ2_getChar_3b067_31 : decode mJ2_getChar_3b067.2.1 31 = .ok (.istore_n 1, 1) := by decide +kernel
theorem dJ2_getChar_3b067_32 : decode mJ2_getChar_3b067.2.1 32 = .ok (.aload_n 0, 1) := by decide +kernel
theorem dJ2_getChar_3b067_33 : decode mJ2_getChar_3b067.2.1 33 = .ok (.iload_n 1, 1) := by decide +kernel
theorem dJ2_getChar_3b067_34 : decode mJ2_getChar_3b067.2.1 34 = .ok (.iinc 1 1, 3) := by decide +kernel
theorem dJ2_getChar_3b067_37 : decode mJ2_getChar_3b067.2.1 37 = .ok (.baload, 1) := by decide +kernel
theorem dJ2_getChar_3b067_38 : decode mJ2_getChar_3b067.2.1 38 = .ok (.sipush 255, 3) := by decide +kernel
theorem dJ2_getChar_3b067_41 : decode mJ2_getChar_3b067.2.1 41 = .ok (.iand, 1) := by decide +kernel
theorem dJ2_getChar_3b067_42 : decode mJ2_getChar_3b067.2.1 42 = .ok (.getstatic 59, 3) := by decide +kernel
theorem dJ2_getChar_3b067_45 : decode mJ2_getChar_3b067.2.1 45 = .ok (.ishl, 1) := by decide +kernel
theorem dJ2_getChar_3b067_46 : decode mJ2_getChar_3b067.2.1 46 = .ok (.aload_n 0, 1) := by decide +kernel
theorem dJ2_getChar_3b067_47 : decode mJ2_getChar_3b067.2.1 47 = .ok (.iload_n 1, 1) := by decide +kernel
theorem dJ2_getChar_3b067_48 : decode mJ2_getChar_3b067.2.1 48 = .ok (.baload, 1) := by decide +kernel
theorem dJ2_getChar_3b067_49 : decode mJ2_getChar_3b067.2.1 49 = .ok (.sipush 255, 3) := by decide +kernel
theorem dJ2_getChar_3b067_52 : decode mJ2_getChar_3b067.2.1 52 = .ok (.iand, 1) := by decide +kernel
theorem dJ2_getChar_3b067_53 : decode mJ2_getChar_3b067.2.1 53 = .ok (.getstatic 63, 3) := by decide +kernel
theorem dJ2_getChar_3b067_56 : decode mJ2_getChar_3b067.2.1 56 = .ok (.ishl, 1) := by decide +kernel
theorem dJ2_getChar_3b067_57 : decode mJ2_getChar_3b067.2.1 57 = .ok (.ior, 1) := by decide +kernel
theorem dJ2_getChar_3b067_58 : decode mJ2_getChar_3b067.2.1 58 = .ok (.i2c, 1) := by decide +kernel
theorem dJ2_getChar_3b067_59 : decode mJ2_getChar_3b067.2.1 59 = .ok (.ireturn, 1) := by decide +kernel
theorem dJ2_length_9d52b_0 : decode mJ2_length_9d52b.2.1 0 = .ok (.aload_n 0, 1) := by decide +kernel
theorem dJ2_length_9d52b_1 : decode mJ2_length_9d52b.2.1 1 = .ok (.arraylength, 1) := by decide +kernel
theorem dJ2_length_9d52b_2 : decode mJ2_length_9d52b.2.1 2 = .ok (.iconst 1, 1) := by decide +kernel
theorem dJ2_length_9d52b_3 : decode mJ2_length_9d52b.2.1 3 = .ok (.ishr, 1) := by decide +kernel
theorem dJ2_length_9d52b_4 : decode mJ2_length_9d52b.2.1 4 = .ok (.ireturn, 1) := by decide +kernel
theorem dJ2_charAt_3b067_0 : decode mJ2_charAt_3b067.2.1 0 = .ok (.iload_n 1, 1) := by decide +kernel
theorem dJ2_charAt_3b067_1 : decode mJ2_charAt_3b067.2.1 1 = .ok (.aload_n 0, 1) := by decide +kernel
theorem dJ2_charAt_3b067_2 : decode mJ2_charAt_3b067.2.1 2 = .ok (.invokestatic 67, 3) := by decide +kernel
theorem dJ2_charAt_3b067_5 : decode mJ2_charAt_3b067.2.1 5 = .ok (.aload_n 0, 1) := by decide +kernel
theorem dJ2_charAt_3b067_6 : decode mJ2_charAt_3b067.2.1 6 = .ok (.iload_n 1, 1) := by decide +kernel
theorem dJ2_charAt_3b067_7 : decode mJ2_charAt_3b067.2.1 7 = .ok (.invokestatic 71, 3) := by decide +kernel
theorem dJ2_charAt_3b067_10 : decode mJ2_charAt_3b067.2.1 10 = .ok (.ireturn, 1) := by decide +kernel
theorem dJ2_checkIndex_2214a_0 : decode mJ2_checkIndex_2214a.2.1 0 = .ok (.iload_n 0, 1) := by decide +kernel
theorem dJ2_checkIndex_2214a_1 : decode mJ2_checkIndex_2214a.2.1 1 = .ok (.aload_n 1, 1) := by decide +kernel
theorem dJ2_checkIndex_2214a_2 : decode mJ2_checkIndex_2214a.2.1 2 = .ok (.invokestatic 48, 3) := by decide +kernel
theorem dJ2_checkIndex_2214a_5 : decode mJ2_checkIndex_2214a.2.1 5 = .ok (.invokestatic 414, 3) := by decide +kernel
theorem dJ2_checkIndex_2214a_8 : decode mJ2_checkIndex_2214a.2.1 8 = .ok (.return_, 1) := by decide +kernel
theorem dJ3_checkIndex_8e157_0 : decode mJ3_checkIndex_8e157.2.1 0 = .ok (.iload_n 0, 1) := by decide +kernel
theorem dJ3_checkIndex_8e157_1 : decode mJ3_checkIndex_8e157.2.1 1 = .ok (.ifCond .lt 8, 3) := by decide +kernel
theorem dJ3_checkIndex_8e157_4 : decode mJ3_checkIndex_8e157.2.1 4 = .ok (.iload_n 0, 1) := by decide +kernel
theorem dJ3_checkIndex_8e157_5 : decode mJ3_checkIndex_8e157.2.1 5 = .ok (.iload_n 1, 1) := by decide +kernel
theorem dJ3_checkIndex_8e157_6 : decode mJ3_checkIndex_8e157.2.1 6 = .ok (.if_icmp .lt 10, 3) := by decide +kernel
theorem dJ3_checkIndex_8e157_9 : decode mJ3_checkIndex_8e157.2.1 9 = .ok (.aload_n 2, 1) := by decide +kernel
theorem dJ3_checkIndex_8e157_10 : decode mJ3_checkIndex_8e157.2.1 10 = .ok (.iload_n 0, 1) := by decide +kernel
theorem dJ3_checkIndex_8e157_11 : decode mJ3_checkIndex_8e157.2.1 11 = .ok (.iload_n 1, 1) := by decide +kernel
theorem dJ3_checkIndex_8e157_12 : decode mJ3_checkIndex_8e157.2.1 12 = .ok (.invokestatic 95, 3) := by decide +kernel
theorem dJ3_checkIndex_8e157_15 : decode mJ3_checkIndex_8e157.2.1 15 = .ok (.athrow, 1) := by decide +kernel
theorem dJ3_checkIndex_8e157_16 : decode mJ3_checkIndex_8e157.2.1 16 = .ok (.iload_n 0, 1) := by decide +kernel
theorem dJ3_checkIndex_8e157_17 : decode mJ3_checkIndex_8e157.2.1 17 = .ok (.ireturn, 1) := by decide +kernel
end
section
/-! calls by the kind of their contract; switches case by case -/
abbrev CnE (M : MT) (as : List Value) (mem : Mem) (r : Option Value) (m2 : Mem) : Prop := Cn M as mem (fun r' m' => r' = r ∧ m' = m2)
abbrev CnI (M : MT) (as : List Value) (mem : Mem) (P : Int32 → Mem → Prop) : Prop := Cn M as mem (fun r m' => ∃ x, r = some (.int x) ∧ P x m')
abbrev CnV (M : MT) (as : List Value) (mem : Mem) (P : Mem → Prop) : Prop := Cn M as mem (fun r m' => r = none ∧ P m')
section WRAP
variable {M M' : MT} {Z : ZT} {pc n' idx n : Nat} {ls : List (Option Value)} {st rest as : List Value} {mem : Mem}
theorem s_E {r : Option Value} {m2 : Mem} (hd : decode M.2.1 pc = .ok (.invokestatic idx, 3)) (hn : pc + 3 = n') (hL : MLk M.1.cls idx M') (hM : MOK M' n) (hst : Cond.static M'.1 ∈ tb) (hR : Rok Z M') (hC : CnE M' as mem r m2) (hlen : as.length = n) (hsk : st = as.reverse ++ rest) (hcat : (rest.map fun v => v.category).sum ≤ 8) (k : Wm M Z n' ls (r.toList ++ rest) m2) : Wm M Z pc ls st mem :=
  w_callS hd hn hL hM hst hR hlen hcat hsk hC (fun r' m' h => by obtain ⟨rfl, rfl⟩ := h; exact k)
theorem s_I {P : Int32 → Mem → Prop} (hd : decode M.2.1 pc = .ok (.invokestatic idx, 3)) (hn : pc + 3 = n') (hL : MLk M.1.cls idx M') (hM : MOK M' n) (hst : Cond.static M'.1 ∈ tb) (hR : Rok Z M') (hC : CnI M' as mem P) (hlen : as.length = n) (hsk : st = as.reverse ++ rest) (hcat : (rest.map fun v => v.category).sum ≤ 8) (k : ∀ x m', P x m' → Wm M Z n' ls (.int x :: rest) m') : Wm M Z pc ls st mem :=
  w_callS hd hn hL hM hst hR hlen hcat hsk hC (fun r' m' h => by obtain ⟨x, rfl, h⟩ := h; exact k x m' h)
theorem s_V {P : Mem → Prop} (hd : decode M.2.1 pc = .ok (.invokestatic idx, 3)) (hn : pc + 3 = n') (hL : MLk M.1.cls idx M') (hM : MOK M' n) (hst : Cond.static M'.1 ∈ tb) (hR : Rok Z M') (hC : CnV M' as mem P) (hlen : as.length = n) (hsk : st = as.reverse ++ rest) (hcat : (rest.map fun v => v.category).sum ≤ 8) (k : ∀ m', P m' → Wm M Z n' ls rest m') : Wm M Z pc ls st mem :=
  w_callS hd hn hL hM hst hR hlen hcat hsk hC (fun r' m' h => by obtain ⟨rfl, h⟩ := h; exact k m' h)
theorem v_E {r : Option Value} {m2 : Mem} {b ci : Nat} (hd : decode M.2.1 pc = .ok (.invokevirtual idx, 3)) (hn : pc + 3 = n') (hL : Cond.methodLink M.1.cls idx M'.1 ∈ tb) (hM : MOK M' n) (hV : VOK M') (hR : Rok Z M') (hC : CnE M' (.ref b :: as) mem r m2) (hlen : as.length = n) (hsk : st = as.reverse ++ .ref b :: rest) (hcat : (rest.map fun v => v.category).sum ≤ 8) (hk : kd b = ci) (hci : ci < 7) (hc : (clC ci).1 = M'.1.cls) (k : Wm M Z n' ls (r.toList ++ rest) m2) : Wm M Z pc ls st mem :=
  w_callV hd hn hL hM hV hR hlen hcat hk hci hc hsk hC (fun r' m' h => by obtain ⟨rfl, rfl⟩ := h; exact k)
theorem v_I {P : Int32 → Mem → Prop} {b ci : Nat} (hd : decode M.2.1 pc = .ok (.invokevirtual idx, 3)) (hn : pc + 3 = n') (hL : Cond.methodLink M.1.cls idx M'.1 ∈ tb) (hM : MOK M' n) (hV : VOK M') (hR : Rok Z M') (hC : CnI M' (.ref b :: as) mem P) (hlen : as.length = n) (hsk : st = as.reverse ++ .ref b :: rest) (hcat : (rest.map fun v => v.category).sum ≤ 8) (hk : kd b = ci) (hci : ci < 7) (hc : (clC ci).1 = M'.1.cls) (k : ∀ x m', P x m' → Wm M Z n' ls (.int x :: rest) m') : Wm M Z pc ls st mem :=
  w_callV hd hn hL hM hV hR hlen hcat hk hci hc hsk hC (fun r' m' h => by obtain ⟨x, rfl, h⟩ := h; exact k x m' h)
theorem v_V {P : Mem → Prop} {b ci : Nat} (hd : decode M.2.1 pc = .ok (.invokevirtual idx, 3)) (hn : pc + 3 = n') (hL : Cond.methodLink M.1.cls idx M'.1 ∈ tb) (hM : MOK M' n) (hV : VOK M') (hR : Rok Z M') (hC : CnV M' (.ref b :: as) mem P) (hlen : as.length = n) (hsk : st = as.reverse ++ .ref b :: rest) (hcat : (rest.map fun v => v.category).sum ≤ 8) (hk : kd b = ci) (hci : ci < 7) (hc : (clC ci).1 = M'.1.cls) (k : ∀ m', P m' → Wm M Z n' ls rest m') : Wm M Z pc ls st mem :=
  w_callV hd hn hL hM hV hR hlen hcat hk hci hc hsk hC (fun r' m' h => by obtain ⟨rfl, h⟩ := h; exact k m' h)
/-- one case of a switch is asked, the rest stays -/
theorem w_tc {dflt lo hi off : Int} {offs : Array Int} {len tgt : Nat} {x : Int32} (v : Int32) (hd : decode M.2.1 pc = .ok (.tableswitch dflt lo hi offs, len)) (h1 : ¬ v.toInt < lo) (h2 : ¬ hi < v.toInt) (ho : offs[(v.toInt - lo).toNat]? = some off) (ht : (pc : Int) + off = (tgt : Int)) (kt : x = v → Wm M Z tgt ls st mem) (kf : ¬ x = v → Wm M Z pc ls (.int x :: st) mem) : Wm M Z pc ls (.int x :: st) mem := by
  by_cases h : x = v
  · subst h
    exact w_tableIn hd h1 h2 ho ht (kt rfl)
  · exact kf h
theorem sw_out {x : Int32} {lo hi : Int} (vs : List Int32) (hx : ∀ v ∈ vs, ¬ x = v) (hv : vs.map Int32.toInt = (List.range (hi + 1 - lo).toNat).map (fun i : Nat => lo + (i : Int))) : x.toInt < lo ∨ hi < x.toInt := by
  rcases Int.lt_or_le x.toInt lo with h | h
  · exact Or.inl h
  · rcases Int.lt_or_le hi x.toInt with h2 | h2
    · exact Or.inr h2
    · exfalso
      have hin : x.toInt ∈ vs.map Int32.toInt := by
        rw [hv, List.mem_map]
        exact ⟨(x.toInt - lo).toNat, List.mem_range.mpr (by omega), by omega⟩
      obtain ⟨v, h3, h4⟩ := List.mem_map.mp hin
      exact hx v h3 (Int32.toInt_inj.mp h4.symm)
theorem w_td {dflt lo hi : Int} {offs : Array Int} {len tgt : Nat} {x : Int32} (vs : List Int32) (hd : decode M.2.1 pc = .ok (.tableswitch dflt lo hi offs, len)) (ht : (pc : Int) + dflt = (tgt : Int)) (hv : vs.map Int32.toInt = (List.range (hi + 1 - lo).toNat).map (fun i : Nat => lo + (i : Int))) (hx : ∀ v ∈ vs, ¬ x = v) (k : Wm M Z tgt ls st mem) : Wm M Z pc ls (.int x :: st) mem :=
  w_tableOut hd (sw_out vs hx hv) ht k
end WRAP
end
section
/-! the farm, and small ones of the class -/
def inR (v a b : Int32) : Int32 := if v < a then 0 else if b < v then 0 else 1
def bitI (s i : Int32) : Int32 := if (s >>> (i &&& 31)) &&& 1 = 1 then 1 else 0
def toldF (f : Nat → Int32) (what : Int32) : Int32 := if what = 0 then f 0 else if what = 1 then f 1 else if what = 2 then f 2 else if what = 3 then f 3 else f 4
def slotF (what : Int32) : Nat := if what = 0 then 0 else if what = 1 then 1 else if what = 2 then 2 else if what = 3 then 3 else 4
def reapF (kind hands wet there : Int32) : Int32 :=
  if kind = 1 then maxI 1 (maxI 1 (2 * hands - wet / 10) / 2)
  else if kind = 2 then maxI 1 (2 * hands - wet / 10) + 3
  else if kind = 3 then (if 20 < there then maxI 1 (2 * hands - wet / 10) + 3 else (maxI 1 (2 * hands - wet / 10) + 3) / 2)
  else if kind = 4 then (if 5 < there then (if 20 < there then maxI 1 (2 * hands - wet / 10) + 3 else (maxI 1 (2 * hands - wet / 10) + 3) / 2) else 1)
  else if kind = 5 then (if wet < 50 then 30 else 2)
  else if kind = 6 then maxI 1 (maxI 1 (maxI 1 (2 * hands - wet / 10) / 2) - 1)
  else maxI 1 (2 * hands - wet / 10)
def tellF (kind had : Int32) : Int32 :=
  if kind = 1 then 2 else if kind = 2 then 3 else if kind = 3 then -3 else if kind = 4 then -3 + minI 9 had else if kind = 5 then 0 else if kind = 6 then 4 else 1
def downF (floor sheaves reaps : Int32) : Int32 := if sheaves ≤ floor then 0 else if reaps < 1 then 0 else (sheaves - floor + reaps - 1) / reaps
def alterF (mem : Mem) (k : Nat) (what v : Int32) : Mem := up2 (up2 mem k (slotF what) v) k 5 (-1)
set_option maxHeartbeats 4000000 in
theorem c_within (v a b : Int32) (mem : Mem) : CnE mX5_within [.int v, .int a, .int b] mem (some (.int (inR v a b))) mem := by
  refine Cn.of (ls := [some (.int v), some (.int a), some (.int b)]) (by decide) rfl (Nat.le_of_ble_eq_true rfl) ?_
  refine w_iload_n (i := 0) (n' := 1) dX5_within_0 rfl rfl rfl ?_
  refine w_iload_n (i := 1) (n' := 2) dX5_within_1 rfl rfl rfl ?_
  refine w_icmp_lt (n' := 5) (tgt := 14) dX5_within_2 rfl rfl (fun h2 => ?_) (fun h2 => ?_)
  · refine w_iconst (v := 0) (n' := 15) dX5_within_14 rfl rfl ?_
    exact w_zret dX5_within_15 rfl rfl ⟨by simp [inR, *], rfl⟩
  · refine w_iload_n (i := 0) (n' := 6) dX5_within_5 rfl rfl rfl ?_
    refine w_iload_n (i := 2) (n' := 7) dX5_within_6 rfl rfl rfl ?_
    refine w_icmp_gt (n' := 10) (tgt := 14) dX5_within_7 rfl rfl (fun h7 => ?_) (fun h7 => ?_)
    · refine w_iconst (v := 0) (n' := 15) dX5_within_14 rfl rfl ?_
      exact w_zret dX5_within_15 rfl rfl ⟨by simp [inR, *], rfl⟩
    · refine w_iconst (v := 1) (n' := 11) dX5_within_10 rfl rfl ?_
      refine w_goto (tgt := 15) dX5_within_11 rfl ?_
      exact w_zret dX5_within_15 rfl rfl ⟨by simp [inR, *], rfl⟩
set_option maxHeartbeats 4000000 in
theorem c_isIn (v a : Int32) (mem : Mem) : CnE mX5_isIn [.int v, .int a] mem (some (.int (bitI v a))) mem := by
  refine Cn.of (ls := [some (.int v), some (.int a)]) (by decide) rfl (Nat.le_of_ble_eq_true rfl) ?_
  refine w_iload_n (i := 0) (n' := 1) dX5_isIn_0 rfl rfl rfl ?_
  refine w_iload_n (i := 1) (n' := 2) dX5_isIn_1 rfl rfl rfl ?_
  refine w_ishr (n' := 3) dX5_isIn_2 rfl ?_
  refine w_iconst (v := 1) (n' := 4) dX5_isIn_3 rfl rfl ?_
  refine w_iand (n' := 5) dX5_isIn_4 rfl ?_
  refine w_iconst (v := 1) (n' := 6) dX5_isIn_5 rfl rfl ?_
  refine w_icmp_ne (n' := 9) (tgt := 13) dX5_isIn_6 rfl rfl (fun h6 => ?_) (fun h6 => ?_)
  · refine w_iconst (v := 0) (n' := 14) dX5_isIn_13 rfl rfl ?_
    exact w_zret dX5_isIn_14 rfl rfl ⟨by simp [bitI, *], rfl⟩
  · refine w_iconst (v := 1) (n' := 10) dX5_isIn_9 rfl rfl ?_
    refine w_goto (tgt := 14) dX5_isIn_10 rfl ?_
    exact w_zret dX5_isIn_14 rfl rfl ⟨by simp [bitI, *], rfl⟩
set_option maxHeartbeats 4000000 in
theorem c_told {k : Nat} (hk : kd k = 0) (what : Int32) (mem : Mem) : CnE mX0_told [.ref k, .int what] mem (some (.int (toldF (mem k) what))) mem := by
  refine Cn.of (ls := [some (.ref k), some (.int what)]) (by decide) rfl (Nat.le_of_ble_eq_true rfl) ?_
  refine w_iload_n (i := 1) (n' := 1) dX0_told_0 rfl rfl rfl ?_
  refine w_tc (0) (tgt := 32) dX0_told_1 (by decide) (by decide) rfl rfl (fun e1_0 => ?_) (fun e1_0 => ?_)
  · refine w_aload_n (i := 0) (n' := 33) dX0_told_32 rfl rfl rfl ?_
    refine w_get (ci := 0) (j := 0) (n' := 36) dX0_told_33 rfl fRX0_9 (Nat.le_of_ble_eq_true rfl) (Nat.le_of_ble_eq_true rfl) hk rfl ?_
    exact w_iret dX0_told_36 rfl ⟨by simp [toldF, *], rfl⟩
  refine w_tc (1) (tgt := 37) dX0_told_1 (by decide) (by decide) rfl rfl (fun e1_1 => ?_) (fun e1_1 => ?_)
  · refine w_aload_n (i := 0) (n' := 38) dX0_told_37 rfl rfl rfl ?_
    refine w_get (ci := 0) (j := 1) (n' := 41) dX0_told_38 rfl fRX0_32 (Nat.le_of_ble_eq_true rfl) (Nat.le_of_ble_eq_true rfl) hk rfl ?_
    exact w_iret dX0_told_41 rfl ⟨by simp [toldF, *], rfl⟩
  refine w_tc (2) (tgt := 42) dX0_told_1 (by decide) (by decide) rfl rfl (fun e1_2 => ?_) (fun e1_2 => ?_)
  · refine w_aload_n (i := 0) (n' := 43) dX0_told_42 rfl rfl rfl ?_
    refine w_get (ci := 0) (j := 2) (n' := 46) dX0_told_43 rfl fRX0_15 (Nat.le_of_ble_eq_true rfl) (Nat.le_of_ble_eq_true rfl) hk rfl ?_
    exact w_iret dX0_told_46 rfl ⟨by simp [toldF, *], rfl⟩
  refine w_tc (3) (tgt := 47) dX0_told_1 (by decide) (by decide) rfl rfl (fun e1_3 => ?_) (fun e1_3 => ?_)
  · refine w_aload_n (i := 0) (n' := 48) dX0_told_47 rfl rfl rfl ?_
    refine w_get (ci := 0) (j := 3) (n' := 51) dX0_told_48 rfl fRX0_35 (Nat.le_of_ble_eq_true rfl) (Nat.le_of_ble_eq_true rfl) hk rfl ?_
    exact w_iret dX0_told_51 rfl ⟨by simp [toldF, *], rfl⟩
  refine w_td [0, 1, 2, 3] (tgt := 52) dX0_told_1 rfl (by decide) (List.forall_mem_cons.mpr ⟨e1_0, (List.forall_mem_cons.mpr ⟨e1_1, (List.forall_mem_cons.mpr ⟨e1_2, (List.forall_mem_cons.mpr ⟨e1_3, (fun _ h => absurd h List.not_mem_nil)⟩)⟩)⟩)⟩) ?_
  refine w_aload_n (i := 0) (n' := 53) dX0_told_52 rfl rfl rfl ?_
  refine w_get (ci := 0) (j := 4) (n' := 56) dX0_told_53 rfl fRX0_38 (Nat.le_of_ble_eq_true rfl) (Nat.le_of_ble_eq_true rfl) hk rfl ?_
  exact w_iret dX0_told_56 rfl ⟨by simp [toldF, *], rfl⟩
set_option maxHeartbeats 4000000 in
theorem c_alter {k : Nat} (hk : kd k = 0) (what v : Int32) (mem : Mem) : CnE mX0_alter [.ref k, .int what, .int v] mem none (alterF mem k what v) := by
  refine Cn.of (ls := [some (.ref k), some (.int what), some (.int v)]) (by decide) rfl (Nat.le_of_ble_eq_true rfl) ?_
  refine w_iload_n (i := 1) (n' := 1) dX0_alter_0 rfl rfl rfl ?_
  refine w_tc (0) (tgt := 32) dX0_alter_1 (by decide) (by decide) rfl rfl (fun e1_0 => ?_) (fun e1_0 => ?_)
  · refine w_aload_n (i := 0) (n' := 33) dX0_alter_32 rfl rfl rfl ?_
    refine w_iload_n (i := 2) (n' := 34) dX0_alter_33 rfl rfl rfl ?_
    refine w_put (ci := 0) (j := 0) (n' := 37) dX0_alter_34 rfl fRX0_9 (Nat.le_of_ble_eq_true rfl) (Nat.le_of_ble_eq_true rfl) rfl rfl hk rfl ?_
    refine w_goto (tgt := 69) dX0_alter_37 rfl ?_
    refine w_aload_n (i := 0) (n' := 70) dX0_alter_69 rfl rfl rfl ?_
    refine w_iconst (v := -1) (n' := 71) dX0_alter_70 rfl rfl ?_
    refine w_put (ci := 0) (j := 5) (n' := 74) dX0_alter_71 rfl fRX0_18 (Nat.le_of_ble_eq_true rfl) (Nat.le_of_ble_eq_true rfl) rfl rfl hk rfl ?_
    exact w_vret dX0_alter_74 rfl ⟨rfl, by simp [alterF, slotF, *]⟩
  refine w_tc (1) (tgt := 40) dX0_alter_1 (by decide) (by decide) rfl rfl (fun e1_1 => ?_) (fun e1_1 => ?_)
  · refine w_aload_n (i := 0) (n' := 41) dX0_alter_40 rfl rfl rfl ?_
    refine w_iload_n (i := 2) (n' := 42) dX0_alter_41 rfl rfl rfl ?_
    refine w_put (ci := 0) (j := 1) (n' := 45) dX0_alter_42 rfl fRX0_32 (Nat.le_of_ble_eq_true rfl) (Nat.le_of_ble_eq_true rfl) rfl rfl hk rfl ?_
    refine w_goto (tgt := 69) dX0_alter_45 rfl ?_
    refine w_aload_n (i := 0) (n' := 70) dX0_alter_69 rfl rfl rfl ?_
    refine w_iconst (v := -1) (n' := 71) dX0_alter_70 rfl rfl ?_
    refine w_put (ci := 0) (j := 5) (n' := 74) dX0_alter_71 rfl fRX0_18 (Nat.le_of_ble_eq_true rfl) (Nat.le_of_ble_eq_true rfl) rfl rfl hk rfl ?_
    exact w_vret dX0_alter_74 rfl ⟨rfl, by simp [alterF, slotF, *]⟩
  refine w_tc (2) (tgt := 48) dX0_alter_1 (by decide) (by decide) rfl rfl (fun e1_2 => ?_) (fun e1_2 => ?_)
  · refine w_aload_n (i := 0) (n' := 49) dX0_alter_48 rfl rfl rfl ?_
    refine w_iload_n (i := 2) (n' := 50) dX0_alter_49 rfl rfl rfl ?_
    refine w_put (ci := 0) (j := 2) (n' := 53) dX0_alter_50 rfl fRX0_15 (Nat.le_of_ble_eq_true rfl) (Nat.le_of_ble_eq_true rfl) rfl rfl hk rfl ?_
    refine w_goto (tgt := 69) dX0_alter_53 rfl ?_
    refine w_aload_n (i := 0) (n' := 70) dX0_alter_69 rfl rfl rfl ?_
    refine w_iconst (v := -1) (n' := 71) dX0_alter_70 rfl rfl ?_
    refine w_put (ci := 0) (j := 5) (n' := 74) dX0_alter_71 rfl fRX0_18 (Nat.le_of_ble_eq_true rfl) (Nat.le_of_ble_eq_true rfl) rfl rfl hk rfl ?_
    exact w_vret dX0_alter_74 rfl ⟨rfl, by simp [alterF, slotF, *]⟩
  refine w_tc (3) (tgt := 56) dX0_alter_1 (by decide) (by decide) rfl rfl (fun e1_3 => ?_) (fun e1_3 => ?_)
  · refine w_aload_n (i := 0) (n' := 57) dX0_alter_56 rfl rfl rfl ?_
    refine w_iload_n (i := 2) (n' := 58) dX0_alter_57 rfl rfl rfl ?_
    refine w_put (ci := 0) (j := 3) (n' := 61) dX0_alter_58 rfl fRX0_35 (Nat.le_of_ble_eq_true rfl) (Nat.le_of_ble_eq_true rfl) rfl rfl hk rfl ?_
    refine w_goto (tgt := 69) dX0_alter_61 rfl ?_
    refine w_aload_n (i := 0) (n' := 70) dX0_alter_69 rfl rfl rfl ?_
    refine w_iconst (v := -1) (n' := 71) dX0_alter_70 rfl rfl ?_
    refine w_put (ci := 0) (j := 5) (n' := 74) dX0_alter_71 rfl fRX0_18 (Nat.le_of_ble_eq_true rfl) (Nat.le_of_ble_eq_true rfl) rfl rfl hk rfl ?_
    exact w_vret dX0_alter_74 rfl ⟨rfl, by simp [alterF, slotF, *]⟩
  refine w_td [0, 1, 2, 3] (tgt := 64) dX0_alter_1 rfl (by decide) (List.forall_mem_cons.mpr ⟨e1_0, (List.forall_mem_cons.mpr ⟨e1_1, (List.forall_mem_cons.mpr ⟨e1_2, (List.forall_mem_cons.mpr ⟨e1_3, (fun _ h => absurd h List.not_mem_nil)⟩)⟩)⟩)⟩) ?_
  refine w_aload_n (i := 0) (n' := 65) dX0_alter_64 rfl rfl rfl ?_
  refine w_iload_n (i := 2) (n' := 66) dX0_alter_65 rfl rfl rfl ?_
  refine w_put (ci := 0) (j := 4) (n' := 69) dX0_alter_66 rfl fRX0_38 (Nat.le_of_ble_eq_true rfl) (Nat.le_of_ble_eq_true rfl) rfl rfl hk rfl ?_
  refine w_aload_n (i := 0) (n' := 70) dX0_alter_69 rfl rfl rfl ?_
  refine w_iconst (v := -1) (n' := 71) dX0_alter_70 rfl rfl ?_
  refine w_put (ci := 0) (j := 5) (n' := 74) dX0_alter_71 rfl fRX0_18 (Nat.le_of_ble_eq_true rfl) (Nat.le_of_ble_eq_true rfl) rfl rfl hk rfl ?_
  exact w_vret dX0_alter_74 rfl ⟨rfl, by simp [alterF, slotF, *]⟩
set_option maxHeartbeats 4000000 in
theorem c_tells {k : Nat} (hk : kd k = 0) (mem : Mem) : CnE mX0_tells [.ref k] mem (some (.int (tellF (mem k 0) (mem k 4)))) mem := by
  refine Cn.of (ls := [some (.ref k)]) (by decide) rfl (Nat.le_of_ble_eq_true rfl) ?_
  refine w_aload_n (i := 0) (n' := 1) dX0_tells_0 rfl rfl rfl ?_
  refine w_get (ci := 0) (j := 0) (n' := 4) dX0_tells_1 rfl fRX0_9 (Nat.le_of_ble_eq_true rfl) (Nat.le_of_ble_eq_true rfl) hk rfl ?_
  refine w_tc (1) (tgt := 44) dX0_tells_4 (by decide) (by decide) rfl rfl (fun e4_0 => ?_) (fun e4_0 => ?_)
  · refine w_iconst (v := 2) (n' := 45) dX0_tells_44 rfl rfl ?_
    exact w_iret dX0_tells_45 rfl ⟨by simp [tellF, *], rfl⟩
  refine w_tc (2) (tgt := 48) dX0_tells_4 (by decide) (by decide) rfl rfl (fun e4_1 => ?_) (fun e4_1 => ?_)
  · refine w_iconst (v := 3) (n' := 49) dX0_tells_48 rfl rfl ?_
    exact w_iret dX0_tells_49 rfl ⟨by simp [tellF, *], rfl⟩
  refine w_tc (3) (tgt := 50) dX0_tells_4 (by decide) (by decide) rfl rfl (fun e4_2 => ?_) (fun e4_2 => ?_)
  · refine w_bipush (v := -3) (n' := 52) dX0_tells_50 rfl (by decide) ?_
    exact w_iret dX0_tells_52 rfl ⟨by simp [tellF, *], rfl⟩
  refine w_tc (4) (tgt := 53) dX0_tells_4 (by decide) (by decide) rfl rfl (fun e4_3 => ?_) (fun e4_3 => ?_)
  · refine w_bipush (v := -3) (n' := 55) dX0_tells_53 rfl (by decide) ?_
    refine w_bipush (v := 9) (n' := 57) dX0_tells_55 rfl (by decide) ?_
    refine w_aload_n (i := 0) (n' := 58) dX0_tells_57 rfl rfl rfl ?_
    refine w_get (ci := 0) (j := 4) (n' := 61) dX0_tells_58 rfl fRX0_38 (Nat.le_of_ble_eq_true rfl) (Nat.le_of_ble_eq_true rfl) hk rfl ?_
    refine w_min (n' := 64) dX0_tells_61 rfl lRX0_63 ⟨Nat.le_of_ble_eq_true rfl, Nat.le_of_ble_eq_true rfl, Nat.le_of_ble_eq_true rfl, Nat.le_of_ble_eq_true rfl⟩ ?_
    refine w_iadd (n' := 65) dX0_tells_64 rfl ?_
    exact w_iret dX0_tells_65 rfl ⟨by simp [tellF, *], rfl⟩
  refine w_tc (5) (tgt := 66) dX0_tells_4 (by decide) (by decide) rfl rfl (fun e4_4 => ?_) (fun e4_4 => ?_)
  · refine w_iconst (v := 0) (n' := 67) dX0_tells_66 rfl rfl ?_
    exact w_iret dX0_tells_67 rfl ⟨by simp [tellF, *], rfl⟩
  refine w_tc (6) (tgt := 46) dX0_tells_4 (by decide) (by decide) rfl rfl (fun e4_5 => ?_) (fun e4_5 => ?_)
  · refine w_iconst (v := 4) (n' := 47) dX0_tells_46 rfl rfl ?_
    exact w_iret dX0_tells_47 rfl ⟨by simp [tellF, *], rfl⟩
  refine w_td [1, 2, 3, 4, 5, 6] (tgt := 68) dX0_tells_4 rfl (by decide) (List.forall_mem_cons.mpr ⟨e4_0, (List.forall_mem_cons.mpr ⟨e4_1, (List.forall_mem_cons.mpr ⟨e4_2, (List.forall_mem_cons.mpr ⟨e4_3, (List.forall_mem_cons.mpr ⟨e4_4, (List.forall_mem_cons.mpr ⟨e4_5, (fun _ h => absurd h List.not_mem_nil)⟩)⟩)⟩)⟩)⟩)⟩) ?_
  refine w_iconst (v := 1) (n' := 69) dX0_tells_68 rfl rfl ?_
  exact w_iret dX0_tells_69 rfl ⟨by simp [tellF, *], rfl⟩
set_option maxHeartbeats 4000000 in
theorem c_reapsOf {k : Nat} (hk : kd k = 0) (there wet : Int32) (mem : Mem) : CnE mX0_reapsOf [.ref k, .int there, .int wet] mem (some (.int (reapF (mem k 0) (mem k 2) wet there))) mem := by
  refine Cn.of (ls := [some (.ref k), some (.int there), some (.int wet), none, none, none, none]) (by decide) rfl (Nat.le_of_ble_eq_true rfl) ?_
  refine w_iconst (v := 1) (n' := 1) dX0_reapsOf_0 rfl rfl ?_
  refine w_iconst (v := 2) (n' := 2) dX0_reapsOf_1 rfl rfl ?_
  refine w_aload_n (i := 0) (n' := 3) dX0_reapsOf_2 rfl rfl rfl ?_
  refine w_get (ci := 0) (j := 2) (n' := 6) dX0_reapsOf_3 rfl fRX0_15 (Nat.le_of_ble_eq_true rfl) (Nat.le_of_ble_eq_true rfl) hk rfl ?_
  refine w_imul (n' := 7) dX0_reapsOf_6 rfl ?_
  refine w_iload_n (i := 2) (n' := 8) dX0_reapsOf_7 rfl rfl rfl ?_
  refine w_bipush (v := 10) (n' := 10) dX0_reapsOf_8 rfl (by decide) ?_
  refine w_idiv (n' := 11) dX0_reapsOf_10 rfl (by decide) ?_
  refine w_isub (n' := 12) dX0_reapsOf_11 rfl ?_
  refine w_max (n' := 15) dX0_reapsOf_12 rfl lRX0_47 ⟨Nat.le_of_ble_eq_true rfl, Nat.le_of_ble_eq_true rfl, Nat.le_of_ble_eq_true rfl, Nat.le_of_ble_eq_true rfl⟩ ?_
  refine w_istore_n (i := 3) (n' := 16) (ls' := [_, _, _, _, _, _, _]) dX0_reapsOf_15 rfl rfl (Nat.le_of_ble_eq_true rfl) rfl rfl ?_
  refine w_iconst (v := 1) (n' := 17) dX0_reapsOf_16 rfl rfl ?_
  refine w_iload_n (i := 3) (n' := 18) dX0_reapsOf_17 rfl rfl rfl ?_
  refine w_iconst (v := 2) (n' := 19) dX0_reapsOf_18 rfl rfl ?_
  refine w_idiv (n' := 20) dX0_reapsOf_19 rfl (by decide) ?_
  refine w_max (n' := 23) dX0_reapsOf_20 rfl lRX0_47 ⟨Nat.le_of_ble_eq_true rfl, Nat.le_of_ble_eq_true rfl, Nat.le_of_ble_eq_true rfl, Nat.le_of_ble_eq_true rfl⟩ ?_
  refine w_istore (n' := 25) (ls' := [_, _, _, _, _, _, _]) dX0_reapsOf_23 rfl (Nat.le_of_ble_eq_true rfl) rfl rfl ?_
  refine w_iload_n (i := 3) (n' := 26) dX0_reapsOf_25 rfl rfl rfl ?_
  refine w_iconst (v := 3) (n' := 27) dX0_reapsOf_26 rfl rfl ?_
  refine w_iadd (n' := 28) dX0_reapsOf_27 rfl ?_
  refine w_istore (n' := 30) (ls' := [_, _, _, _, _, _, _]) dX0_reapsOf_28 rfl (Nat.le_of_ble_eq_true rfl) rfl rfl ?_
  refine w_iload_n (i := 1) (n' := 31) dX0_reapsOf_30 rfl rfl rfl ?_
  refine w_bipush (v := 20) (n' := 33) dX0_reapsOf_31 rfl (by decide) ?_
  refine w_icmp_gt (n' := 36) (tgt := 43) dX0_reapsOf_33 rfl rfl (fun h33 => ?_) (fun h33 => ?_)
  · refine w_iload (n' := 45) dX0_reapsOf_43 rfl rfl ?_
    refine w_istore (n' := 47) (ls' := [_, _, _, _, _, _, _]) dX0_reapsOf_45 rfl (Nat.le_of_ble_eq_true rfl) rfl rfl ?_
    refine w_aload_n (i := 0) (n' := 48) dX0_reapsOf_47 rfl rfl rfl ?_
    refine w_get (ci := 0) (j := 0) (n' := 51) dX0_reapsOf_48 rfl fRX0_9 (Nat.le_of_ble_eq_true rfl) (Nat.le_of_ble_eq_true rfl) hk rfl ?_
    refine w_tc (1) (tgt := 88) dX0_reapsOf_51 (by decide) (by decide) rfl rfl (fun e51_0 => ?_) (fun e51_0 => ?_)
    · refine w_iload (n' := 90) dX0_reapsOf_88 rfl rfl ?_
      exact w_iret dX0_reapsOf_90 rfl ⟨by simp [reapF, *], rfl⟩
    refine w_tc (2) (tgt := 100) dX0_reapsOf_51 (by decide) (by decide) rfl rfl (fun e51_1 => ?_) (fun e51_1 => ?_)
    · refine w_iload (n' := 102) dX0_reapsOf_100 rfl rfl ?_
      exact w_iret dX0_reapsOf_102 rfl ⟨by simp [reapF, *], rfl⟩
    refine w_tc (3) (tgt := 103) dX0_reapsOf_51 (by decide) (by decide) rfl rfl (fun e51_2 => ?_) (fun e51_2 => ?_)
    · refine w_iload (n' := 105) dX0_reapsOf_103 rfl rfl ?_
      exact w_iret dX0_reapsOf_105 rfl ⟨by simp [reapF, *], rfl⟩
    refine w_tc (4) (tgt := 106) dX0_reapsOf_51 (by decide) (by decide) rfl rfl (fun e51_3 => ?_) (fun e51_3 => ?_)
    · refine w_iload_n (i := 1) (n' := 107) dX0_reapsOf_106 rfl rfl rfl ?_
      refine w_iconst (v := 5) (n' := 108) dX0_reapsOf_107 rfl rfl ?_
      refine w_icmp_gt (n' := 111) (tgt := 115) dX0_reapsOf_108 rfl rfl (fun h108 => ?_) (fun h108 => ?_)
      · refine w_iload (n' := 117) dX0_reapsOf_115 rfl rfl ?_
        exact w_iret dX0_reapsOf_117 rfl ⟨by simp [reapF, *], rfl⟩
      · refine w_iconst (v := 1) (n' := 112) dX0_reapsOf_111 rfl rfl ?_
        refine w_goto (tgt := 117) dX0_reapsOf_112 rfl ?_
        exact w_iret dX0_reapsOf_117 rfl ⟨by simp [reapF, *], rfl⟩
    refine w_tc (5) (tgt := 118) dX0_reapsOf_51 (by decide) (by decide) rfl rfl (fun e51_4 => ?_) (fun e51_4 => ?_)
    · refine w_iload_n (i := 2) (n' := 119) dX0_reapsOf_118 rfl rfl rfl ?_
      refine w_bipush (v := 50) (n' := 121) dX0_reapsOf_119 rfl (by decide) ?_
      refine w_icmp_ge (n' := 124) (tgt := 129) dX0_reapsOf_121 rfl rfl (fun h121 => ?_) (fun h121 => ?_)
      · refine w_iconst (v := 2) (n' := 130) dX0_reapsOf_129 rfl rfl ?_
        exact w_iret dX0_reapsOf_130 rfl ⟨by simp [reapF, *], rfl⟩
      · refine w_bipush (v := 30) (n' := 126) dX0_reapsOf_124 rfl (by decide) ?_
        refine w_goto (tgt := 130) dX0_reapsOf_126 rfl ?_
        exact w_iret dX0_reapsOf_130 rfl ⟨by simp [reapF, *], rfl⟩
    refine w_tc (6) (tgt := 91) dX0_reapsOf_51 (by decide) (by decide) rfl rfl (fun e51_5 => ?_) (fun e51_5 => ?_)
    · refine w_iconst (v := 1) (n' := 92) dX0_reapsOf_91 rfl rfl ?_
      refine w_iload (n' := 94) dX0_reapsOf_92 rfl rfl ?_
      refine w_iconst (v := 1) (n' := 95) dX0_reapsOf_94 rfl rfl ?_
      refine w_isub (n' := 96) dX0_reapsOf_95 rfl ?_
      refine w_max (n' := 99) dX0_reapsOf_96 rfl lRX0_47 ⟨Nat.le_of_ble_eq_true rfl, Nat.le_of_ble_eq_true rfl, Nat.le_of_ble_eq_true rfl, Nat.le_of_ble_eq_true rfl⟩ ?_
      exact w_iret dX0_reapsOf_99 rfl ⟨by simp [reapF, *], rfl⟩
    refine w_td [1, 2, 3, 4, 5, 6] (tgt := 131) dX0_reapsOf_51 rfl (by decide) (List.forall_mem_cons.mpr ⟨e51_0, (List.forall_mem_cons.mpr ⟨e51_1, (List.forall_mem_cons.mpr ⟨e51_2, (List.forall_mem_cons.mpr ⟨e51_3, (List.forall_mem_cons.mpr ⟨e51_4, (List.forall_mem_cons.mpr ⟨e51_5, (fun _ h => absurd h List.not_mem_nil)⟩)⟩)⟩)⟩)⟩)⟩) ?_
    refine w_iload_n (i := 3) (n' := 132) dX0_reapsOf_131 rfl rfl rfl ?_
    exact w_iret dX0_reapsOf_132 rfl ⟨by simp [reapF, *], rfl⟩
  · refine w_iload (n' := 38) dX0_reapsOf_36 rfl rfl ?_
    refine w_iconst (v := 2) (n' := 39) dX0_reapsOf_38 rfl rfl ?_
    refine w_idiv (n' := 40) dX0_reapsOf_39 rfl (by decide) ?_
    refine w_goto (tgt := 45) dX0_reapsOf_40 rfl ?_
    refine w_istore (n' := 47) (ls' := [_, _, _, _, _, _, _]) dX0_reapsOf_45 rfl (Nat.le_of_ble_eq_true rfl) rfl rfl ?_
    refine w_aload_n (i := 0) (n' := 48) dX0_reapsOf_47 rfl rfl rfl ?_
    refine w_get (ci := 0) (j := 0) (n' := 51) dX0_reapsOf_48 rfl fRX0_9 (Nat.le_of_ble_eq_true rfl) (Nat.le_of_ble_eq_true rfl) hk rfl ?_
    refine w_tc (1) (tgt := 88) dX0_reapsOf_51 (by decide) (by decide) rfl rfl (fun e51_0 => ?_) (fun e51_0 => ?_)
    · refine w_iload (n' := 90) dX0_reapsOf_88 rfl rfl ?_
      exact w_iret dX0_reapsOf_90 rfl ⟨by simp [reapF, *], rfl⟩
    refine w_tc (2) (tgt := 100) dX0_reapsOf_51 (by decide) (by decide) rfl rfl (fun e51_1 => ?_) (fun e51_1 => ?_)
    · refine w_iload (n' := 102) dX0_reapsOf_100 rfl rfl ?_
      exact w_iret dX0_reapsOf_102 rfl ⟨by simp [reapF, *], rfl⟩
    refine w_tc (3) (tgt := 103) dX0_reapsOf_51 (by decide) (by decide) rfl rfl (fun e51_2 => ?_) (fun e51_2 => ?_)
    · refine w_iload (n' := 105) dX0_reapsOf_103 rfl rfl ?_
      exact w_iret dX0_reapsOf_105 rfl ⟨by simp [reapF, *], rfl⟩
    refine w_tc (4) (tgt := 106) dX0_reapsOf_51 (by decide) (by decide) rfl rfl (fun e51_3 => ?_) (fun e51_3 => ?_)
    · refine w_iload_n (i := 1) (n' := 107) dX0_reapsOf_106 rfl rfl rfl ?_
      refine w_iconst (v := 5) (n' := 108) dX0_reapsOf_107 rfl rfl ?_
      refine w_icmp_gt (n' := 111) (tgt := 115) dX0_reapsOf_108 rfl rfl (fun h108 => ?_) (fun h108 => ?_)
      · refine w_iload (n' := 117) dX0_reapsOf_115 rfl rfl ?_
        exact w_iret dX0_reapsOf_117 rfl ⟨by simp [reapF, *], rfl⟩
      · refine w_iconst (v := 1) (n' := 112) dX0_reapsOf_111 rfl rfl ?_
        refine w_goto (tgt := 117) dX0_reapsOf_112 rfl ?_
        exact w_iret dX0_reapsOf_117 rfl ⟨by simp [reapF, *], rfl⟩
    refine w_tc (5) (tgt := 118) dX0_reapsOf_51 (by decide) (by decide) rfl rfl (fun e51_4 => ?_) (fun e51_4 => ?_)
    · refine w_iload_n (i := 2) (n' := 119) dX0_reapsOf_118 rfl rfl rfl ?_
      refine w_bipush (v := 50) (n' := 121) dX0_reapsOf_119 rfl (by decide) ?_
      refine w_icmp_ge (n' := 124) (tgt := 129) dX0_reapsOf_121 rfl rfl (fun h121 => ?_) (fun h121 => ?_)
      · refine w_iconst (v := 2) (n' := 130) dX0_reapsOf_129 rfl rfl ?_
        exact w_iret dX0_reapsOf_130 rfl ⟨by simp [reapF, *], rfl⟩
      · refine w_bipush (v := 30) (n' := 126) dX0_reapsOf_124 rfl (by decide) ?_
        refine w_goto (tgt := 130) dX0_reapsOf_126 rfl ?_
        exact w_iret dX0_reapsOf_130 rfl ⟨by simp [reapF, *], rfl⟩
    refine w_tc (6) (tgt := 91) dX0_reapsOf_51 (by decide) (by decide) rfl rfl (fun e51_5 => ?_) (fun e51_5 => ?_)
    · refine w_iconst (v := 1) (n' := 92) dX0_reapsOf_91 rfl rfl ?_
      refine w_iload (n' := 94) dX0_reapsOf_92 rfl rfl ?_
      refine w_iconst (v := 1) (n' := 95) dX0_reapsOf_94 rfl rfl ?_
      refine w_isub (n' := 96) dX0_reapsOf_95 rfl ?_
      refine w_max (n' := 99) dX0_reapsOf_96 rfl lRX0_47 ⟨Nat.le_of_ble_eq_true rfl, Nat.le_of_ble_eq_true rfl, Nat.le_of_ble_eq_true rfl, Nat.le_of_ble_eq_true rfl⟩ ?_
      exact w_iret dX0_reapsOf_99 rfl ⟨by simp [reapF, *], rfl⟩
    refine w_td [1, 2, 3, 4, 5, 6] (tgt := 131) dX0_reapsOf_51 rfl (by decide) (List.forall_mem_cons.mpr ⟨e51_0, (List.forall_mem_cons.mpr ⟨e51_1, (List.forall_mem_cons.mpr ⟨e51_2, (List.forall_mem_cons.mpr ⟨e51_3, (List.forall_mem_cons.mpr ⟨e51_4, (List.forall_mem_cons.mpr ⟨e51_5, (fun _ h => absurd h List.not_mem_nil)⟩)⟩)⟩)⟩)⟩)⟩) ?_
    refine w_iload_n (i := 3) (n' := 132) dX0_reapsOf_131 rfl rfl rfl ?_
    exact w_iret dX0_reapsOf_132 rfl ⟨by simp [reapF, *], rfl⟩
set_option maxHeartbeats 4000000 in
theorem c_daysDownTo (fl sh re : Int32) (mem : Mem) : CnE mX0_daysDownTo [.int fl, .int sh, .int re] mem (some (.int (downF fl sh re))) mem := by
  refine Cn.of (ls := [some (.int fl), some (.int sh), some (.int re)]) (by decide) rfl (Nat.le_of_ble_eq_true rfl) ?_
  refine w_iload_n (i := 1) (n' := 1) dX0_daysDownTo_0 rfl rfl rfl ?_
  refine w_iload_n (i := 0) (n' := 2) dX0_daysDownTo_1 rfl rfl rfl ?_
  refine w_icmp_le (n' := 5) (tgt := 10) dX0_daysDownTo_2 rfl rfl (fun h2 => ?_) (fun h2 => ?_)
  · refine w_iconst (v := 0) (n' := 11) dX0_daysDownTo_10 rfl rfl ?_
    exact w_iret dX0_daysDownTo_11 rfl ⟨by simp [downF, *], rfl⟩
  · refine w_iload_n (i := 2) (n' := 6) dX0_daysDownTo_5 rfl rfl rfl ?_
    refine w_iconst (v := 1) (n' := 7) dX0_daysDownTo_6 rfl rfl ?_
    refine w_icmp_ge (n' := 10) (tgt := 12) dX0_daysDownTo_7 rfl rfl (fun h7 => ?_) (fun h7 => ?_)
    · refine w_iload_n (i := 1) (n' := 13) dX0_daysDownTo_12 rfl rfl rfl ?_
      refine w_iload_n (i := 0) (n' := 14) dX0_daysDownTo_13 rfl rfl rfl ?_
      refine w_isub (n' := 15) dX0_daysDownTo_14 rfl ?_
      refine w_iload_n (i := 2) (n' := 16) dX0_daysDownTo_15 rfl rfl rfl ?_
      refine w_iadd (n' := 17) dX0_daysDownTo_16 rfl ?_
      refine w_iconst (v := 1) (n' := 18) dX0_daysDownTo_17 rfl rfl ?_
      refine w_isub (n' := 19) dX0_daysDownTo_18 rfl ?_
      refine w_iload_n (i := 2) (n' := 20) dX0_daysDownTo_19 rfl rfl rfl ?_
      refine w_idiv (n' := 21) dX0_daysDownTo_20 rfl (fun e => h7 (by rw [e]; decide)) ?_
      exact w_iret dX0_daysDownTo_21 rfl ⟨by simp [downF, *], rfl⟩
    · refine w_iconst (v := 0) (n' := 11) dX0_daysDownTo_10 rfl rfl ?_
      exact w_iret dX0_daysDownTo_11 rfl ⟨by simp [downF, *], rfl⟩
end
