section
-- ===== PART A: goes FIRST, ahead of the names: the tables' words, and 'selects' of the private methods out of them =====
/-- a private method of a class that the tables say can be made, by its rows of tables_1 -/
def lw_okq (q : MethodName × Nat) : Prop := (q.1.cls ≠ "java/lang/invoke/MethodHandle" ∧ q.1.cls ≠ "java/lang/invoke/VarHandle") ∧ Cond.instantiable q.1.cls q.2 ∈ tables_1 ∧ Cond.privateMethod q.1 ∈ tables_1 ∧ Cond.instanceMethod q.1 ∈ tables_1
theorem lw_p0 : lw_okq (⟨"SaintHill", "found", "(I)I"⟩, 10) := ⟨⟨by decide +kernel, by decide +kernel⟩, List.mem_of_getElem? (i := 15) (by decide +kernel), List.mem_of_getElem? (i := 304) (by decide +kernel), List.mem_of_getElem? (i := 305) (by decide +kernel)⟩
theorem lw_p1 : lw_okq (⟨"SaintHill", "fine", "(I)I"⟩, 10) := ⟨⟨by decide +kernel, by decide +kernel⟩, List.mem_of_getElem? (i := 15) (by decide +kernel), List.mem_of_getElem? (i := 313) (by decide +kernel), List.mem_of_getElem? (i := 314) (by decide +kernel)⟩
theorem lw_p2 : lw_okq (⟨"SaintHill$Tape", "readLaw", "(LSaintHill$Hill;)Z"⟩, 5) := ⟨⟨by decide +kernel, by decide +kernel⟩, List.mem_of_getElem? (i := 25) (by decide +kernel), List.mem_of_getElem? (i := 361) (by decide +kernel), List.mem_of_getElem? (i := 362) (by decide +kernel)⟩
theorem lw_p3 : lw_okq (⟨"SaintHill$Tape", "readSign", "(I)Z"⟩, 5) := ⟨⟨by decide +kernel, by decide +kernel⟩, List.mem_of_getElem? (i := 25) (by decide +kernel), List.mem_of_getElem? (i := 365) (by decide +kernel), List.mem_of_getElem? (i := 366) (by decide +kernel)⟩
theorem lw_p4 : lw_okq (⟨"SaintHill$Tape", "peek", "(I)I"⟩, 5) := ⟨⟨by decide +kernel, by decide +kernel⟩, List.mem_of_getElem? (i := 25) (by decide +kernel), List.mem_of_getElem? (i := 369) (by decide +kernel), List.mem_of_getElem? (i := 370) (by decide +kernel)⟩
theorem lw_p5 : lw_okq (⟨"SaintHill$Tape", "fail", "(II)Z"⟩, 5) := ⟨⟨by decide +kernel, by decide +kernel⟩, List.mem_of_getElem? (i := 25) (by decide +kernel), List.mem_of_getElem? (i := 374) (by decide +kernel), List.mem_of_getElem? (i := 375) (by decide +kernel)⟩
theorem lw_p6 : lw_okq (⟨"SaintHill$Tape", "readNumber", "(II)I"⟩, 5) := ⟨⟨by decide +kernel, by decide +kernel⟩, List.mem_of_getElem? (i := 25) (by decide +kernel), List.mem_of_getElem? (i := 382) (by decide +kernel), List.mem_of_getElem? (i := 383) (by decide +kernel)⟩
theorem lw_p7 : lw_okq (⟨"SaintHill$Tape", "readHouse", "(LSaintHill$Hill;)Z"⟩, 5) := ⟨⟨by decide +kernel, by decide +kernel⟩, List.mem_of_getElem? (i := 25) (by decide +kernel), List.mem_of_getElem? (i := 390) (by decide +kernel), List.mem_of_getElem? (i := 391) (by decide +kernel)⟩
theorem lw_p8 : lw_okq (⟨"SaintHill$Hill", "meet", "(II)V"⟩, 12) := ⟨⟨by decide +kernel, by decide +kernel⟩, List.mem_of_getElem? (i := 51) (by decide +kernel), List.mem_of_getElem? (i := 462) (by decide +kernel), List.mem_of_getElem? (i := 463) (by decide +kernel)⟩
theorem lw_p9 : lw_okq (⟨"SaintHill$Acts", "forgetOldest", "()V"⟩, 4) := ⟨⟨by decide +kernel, by decide +kernel⟩, List.mem_of_getElem? (i := 187) (by decide +kernel), List.mem_of_getElem? (i := 479) (by decide +kernel), List.mem_of_getElem? (i := 480) (by decide +kernel)⟩
theorem lw_p10 : lw_okq (⟨"SaintHill", "isHouse", "(I)Z"⟩, 10) := ⟨⟨by decide +kernel, by decide +kernel⟩, List.mem_of_getElem? (i := 15) (by decide +kernel), List.mem_of_getElem? (i := 492) (by decide +kernel), List.mem_of_getElem? (i := 493) (by decide +kernel)⟩
theorem lw_p11 : lw_okq (⟨"SaintHill", "isCell", "(II)Z"⟩, 10) := ⟨⟨by decide +kernel, by decide +kernel⟩, List.mem_of_getElem? (i := 15) (by decide +kernel), List.mem_of_getElem? (i := 501) (by decide +kernel), List.mem_of_getElem? (i := 502) (by decide +kernel)⟩
theorem lw_p12 : lw_okq (⟨"SaintHill$Seer", "sulkers", "()I"⟩, 2) := ⟨⟨by decide +kernel, by decide +kernel⟩, List.mem_of_getElem? (i := 207) (by decide +kernel), List.mem_of_getElem? (i := 612) (by decide +kernel), List.mem_of_getElem? (i := 613) (by decide +kernel)⟩
theorem lw_p13 : lw_okq (⟨"SaintHill$Seer", "fits", "(LSaintHill$Row;II)Z"⟩, 2) := ⟨⟨by decide +kernel, by decide +kernel⟩, List.mem_of_getElem? (i := 207) (by decide +kernel), List.mem_of_getElem? (i := 639) (by decide +kernel), List.mem_of_getElem? (i := 640) (by decide +kernel)⟩
theorem lw_p14 : lw_okq (⟨"SaintHill$Trace", "leave", "(I)V"⟩, 2) := ⟨⟨by decide +kernel, by decide +kernel⟩, List.mem_of_getElem? (i := 224) (by decide +kernel), List.mem_of_getElem? (i := 731) (by decide +kernel), List.mem_of_getElem? (i := 732) (by decide +kernel)⟩
theorem lw_p15 : lw_okq (⟨"SaintHill", "rowsThere", "()I"⟩, 10) := ⟨⟨by decide +kernel, by decide +kernel⟩, List.mem_of_getElem? (i := 15) (by decide +kernel), List.mem_of_getElem? (i := 743) (by decide +kernel), List.mem_of_getElem? (i := 744) (by decide +kernel)⟩
def lw_privs_1 : List (MethodName × Nat) := [(⟨"SaintHill", "found", "(I)I"⟩, 10), (⟨"SaintHill", "fine", "(I)I"⟩, 10), (⟨"SaintHill$Tape", "readLaw", "(LSaintHill$Hill;)Z"⟩, 5), (⟨"SaintHill$Tape", "readSign", "(I)Z"⟩, 5), (⟨"SaintHill$Tape", "peek", "(I)I"⟩, 5), (⟨"SaintHill$Tape", "fail", "(II)Z"⟩, 5), (⟨"SaintHill$Tape", "readNumber", "(II)I"⟩, 5), (⟨"SaintHill$Tape", "readHouse", "(LSaintHill$Hill;)Z"⟩, 5), (⟨"SaintHill$Hill", "meet", "(II)V"⟩, 12), (⟨"SaintHill$Acts", "forgetOldest", "()V"⟩, 4), (⟨"SaintHill", "isHouse", "(I)Z"⟩, 10), (⟨"SaintHill", "isCell", "(II)Z"⟩, 10), (⟨"SaintHill$Seer", "sulkers", "()I"⟩, 2), (⟨"SaintHill$Seer", "fits", "(LSaintHill$Row;II)Z"⟩, 2), (⟨"SaintHill$Trace", "leave", "(I)V"⟩, 2), (⟨"SaintHill", "rowsThere", "()I"⟩, 10)]
theorem lw_r1 : ∀ q ∈ lw_privs_1, lw_okq q := List.forall_mem_cons.mpr ⟨lw_p0, List.forall_mem_cons.mpr ⟨lw_p1, List.forall_mem_cons.mpr ⟨lw_p2, List.forall_mem_cons.mpr ⟨lw_p3, List.forall_mem_cons.mpr ⟨lw_p4, List.forall_mem_cons.mpr ⟨lw_p5, List.forall_mem_cons.mpr ⟨lw_p6, List.forall_mem_cons.mpr ⟨lw_p7, List.forall_mem_cons.mpr ⟨lw_p8, List.forall_mem_cons.mpr ⟨lw_p9, List.forall_mem_cons.mpr ⟨lw_p10, List.forall_mem_cons.mpr ⟨lw_p11, List.forall_mem_cons.mpr ⟨lw_p12, List.forall_mem_cons.mpr ⟨lw_p13, List.forall_mem_cons.mpr ⟨lw_p14, List.forall_mem_cons.mpr ⟨lw_p15, fun _ h => absurd h List.not_mem_nil⟩⟩⟩⟩⟩⟩⟩⟩⟩⟩⟩⟩⟩⟩⟩⟩
theorem lw_p16 : lw_okq (⟨"SaintHillModel", "find", "(I)I"⟩, 24) := ⟨⟨by decide +kernel, by decide +kernel⟩, List.mem_of_getElem? (i := 752) (by decide +kernel), List.mem_of_getElem? (i := 845) (by decide +kernel), List.mem_of_getElem? (i := 846) (by decide +kernel)⟩
theorem lw_p17 : lw_okq (⟨"SaintHillModel", "well", "(I)I"⟩, 24) := ⟨⟨by decide +kernel, by decide +kernel⟩, List.mem_of_getElem? (i := 752) (by decide +kernel), List.mem_of_getElem? (i := 850) (by decide +kernel), List.mem_of_getElem? (i := 851) (by decide +kernel)⟩
theorem lw_p18 : lw_okq (⟨"SaintHillModel", "isSpan", "(III)Z"⟩, 24) := ⟨⟨by decide +kernel, by decide +kernel⟩, List.mem_of_getElem? (i := 752) (by decide +kernel), List.mem_of_getElem? (i := 865) (by decide +kernel), List.mem_of_getElem? (i := 866) (by decide +kernel)⟩
theorem lw_p19 : lw_okq (⟨"SaintHillModel", "reads", "()Z"⟩, 24) := ⟨⟨by decide +kernel, by decide +kernel⟩, List.mem_of_getElem? (i := 752) (by decide +kernel), List.mem_of_getElem? (i := 883) (by decide +kernel), List.mem_of_getElem? (i := 884) (by decide +kernel)⟩
theorem lw_p20 : lw_okq (⟨"SaintHillModel", "readsLaw", "()Z"⟩, 24) := ⟨⟨by decide +kernel, by decide +kernel⟩, List.mem_of_getElem? (i := 752) (by decide +kernel), List.mem_of_getElem? (i := 887) (by decide +kernel), List.mem_of_getElem? (i := 888) (by decide +kernel)⟩
theorem lw_p21 : lw_okq (⟨"SaintHillModel", "sign", "(I)Z"⟩, 24) := ⟨⟨by decide +kernel, by decide +kernel⟩, List.mem_of_getElem? (i := 752) (by decide +kernel), List.mem_of_getElem? (i := 891) (by decide +kernel), List.mem_of_getElem? (i := 892) (by decide +kernel)⟩
theorem lw_p22 : lw_okq (⟨"SaintHillModel", "isLetter", "(I)Z"⟩, 24) := ⟨⟨by decide +kernel, by decide +kernel⟩, List.mem_of_getElem? (i := 752) (by decide +kernel), List.mem_of_getElem? (i := 895) (by decide +kernel), List.mem_of_getElem? (i := 896) (by decide +kernel)⟩
theorem lw_p23 : lw_okq (⟨"SaintHillModel", "refuse", "(I)Z"⟩, 24) := ⟨⟨by decide +kernel, by decide +kernel⟩, List.mem_of_getElem? (i := 752) (by decide +kernel), List.mem_of_getElem? (i := 899) (by decide +kernel), List.mem_of_getElem? (i := 900) (by decide +kernel)⟩
theorem lw_p24 : lw_okq (⟨"SaintHillModel", "readsNumber", "(II)Z"⟩, 24) := ⟨⟨by decide +kernel, by decide +kernel⟩, List.mem_of_getElem? (i := 752) (by decide +kernel), List.mem_of_getElem? (i := 903) (by decide +kernel), List.mem_of_getElem? (i := 904) (by decide +kernel)⟩
theorem lw_p25 : lw_okq (⟨"SaintHillModel", "isFigure", "(I)Z"⟩, 24) := ⟨⟨by decide +kernel, by decide +kernel⟩, List.mem_of_getElem? (i := 752) (by decide +kernel), List.mem_of_getElem? (i := 907) (by decide +kernel), List.mem_of_getElem? (i := 908) (by decide +kernel)⟩
theorem lw_p26 : lw_okq (⟨"SaintHillModel", "isSort", "()Z"⟩, 24) := ⟨⟨by decide +kernel, by decide +kernel⟩, List.mem_of_getElem? (i := 752) (by decide +kernel), List.mem_of_getElem? (i := 913) (by decide +kernel), List.mem_of_getElem? (i := 914) (by decide +kernel)⟩
theorem lw_p27 : lw_okq (⟨"SaintHillModel", "readsHouse", "()Z"⟩, 24) := ⟨⟨by decide +kernel, by decide +kernel⟩, List.mem_of_getElem? (i := 752) (by decide +kernel), List.mem_of_getElem? (i := 920) (by decide +kernel), List.mem_of_getElem? (i := 921) (by decide +kernel)⟩
theorem lw_p28 : lw_okq (⟨"SaintHillModel", "houseAt", "(III)I"⟩, 24) := ⟨⟨by decide +kernel, by decide +kernel⟩, List.mem_of_getElem? (i := 752) (by decide +kernel), List.mem_of_getElem? (i := 924) (by decide +kernel), List.mem_of_getElem? (i := 925) (by decide +kernel)⟩
theorem lw_p29 : lw_okq (⟨"SaintHillModel", "copyTown", "(II)V"⟩, 24) := ⟨⟨by decide +kernel, by decide +kernel⟩, List.mem_of_getElem? (i := 752) (by decide +kernel), List.mem_of_getElem? (i := 930) (by decide +kernel), List.mem_of_getElem? (i := 931) (by decide +kernel)⟩
theorem lw_p30 : lw_okq (⟨"SaintHillModel", "keepPast", "()V"⟩, 24) := ⟨⟨by decide +kernel, by decide +kernel⟩, List.mem_of_getElem? (i := 752) (by decide +kernel), List.mem_of_getElem? (i := 948) (by decide +kernel), List.mem_of_getElem? (i := 949) (by decide +kernel)⟩
theorem lw_p31 : lw_okq (⟨"SaintHillModel", "pass", "(I)I"⟩, 24) := ⟨⟨by decide +kernel, by decide +kernel⟩, List.mem_of_getElem? (i := 752) (by decide +kernel), List.mem_of_getElem? (i := 952) (by decide +kernel), List.mem_of_getElem? (i := 953) (by decide +kernel)⟩
def lw_privs_2 : List (MethodName × Nat) := [(⟨"SaintHillModel", "find", "(I)I"⟩, 24), (⟨"SaintHillModel", "well", "(I)I"⟩, 24), (⟨"SaintHillModel", "isSpan", "(III)Z"⟩, 24), (⟨"SaintHillModel", "reads", "()Z"⟩, 24), (⟨"SaintHillModel", "readsLaw", "()Z"⟩, 24), (⟨"SaintHillModel", "sign", "(I)Z"⟩, 24), (⟨"SaintHillModel", "isLetter", "(I)Z"⟩, 24), (⟨"SaintHillModel", "refuse", "(I)Z"⟩, 24), (⟨"SaintHillModel", "readsNumber", "(II)Z"⟩, 24), (⟨"SaintHillModel", "isFigure", "(I)Z"⟩, 24), (⟨"SaintHillModel", "isSort", "()Z"⟩, 24), (⟨"SaintHillModel", "readsHouse", "()Z"⟩, 24), (⟨"SaintHillModel", "houseAt", "(III)I"⟩, 24), (⟨"SaintHillModel", "copyTown", "(II)V"⟩, 24), (⟨"SaintHillModel", "keepPast", "()V"⟩, 24), (⟨"SaintHillModel", "pass", "(I)I"⟩, 24)]
theorem lw_r2 : ∀ q ∈ lw_privs_2, lw_okq q := List.forall_mem_cons.mpr ⟨lw_p16, List.forall_mem_cons.mpr ⟨lw_p17, List.forall_mem_cons.mpr ⟨lw_p18, List.forall_mem_cons.mpr ⟨lw_p19, List.forall_mem_cons.mpr ⟨lw_p20, List.forall_mem_cons.mpr ⟨lw_p21, List.forall_mem_cons.mpr ⟨lw_p22, List.forall_mem_cons.mpr ⟨lw_p23, List.forall_mem_cons.mpr ⟨lw_p24, List.forall_mem_cons.mpr ⟨lw_p25, List.forall_mem_cons.mpr ⟨lw_p26, List.forall_mem_cons.mpr ⟨lw_p27, List.forall_mem_cons.mpr ⟨lw_p28, List.forall_mem_cons.mpr ⟨lw_p29, List.forall_mem_cons.mpr ⟨lw_p30, List.forall_mem_cons.mpr ⟨lw_p31, fun _ h => absurd h List.not_mem_nil⟩⟩⟩⟩⟩⟩⟩⟩⟩⟩⟩⟩⟩⟩⟩⟩
theorem lw_p32 : lw_okq (⟨"SaintHillModel", "rollsNow", "(I)I"⟩, 24) := ⟨⟨by decide +kernel, by decide +kernel⟩, List.mem_of_getElem? (i := 752) (by decide +kernel), List.mem_of_getElem? (i := 956) (by decide +kernel), List.mem_of_getElem? (i := 957) (by decide +kernel)⟩
theorem lw_p33 : lw_okq (⟨"SaintHillModel", "startOf", "(I)I"⟩, 24) := ⟨⟨by decide +kernel, by decide +kernel⟩, List.mem_of_getElem? (i := 752) (by decide +kernel), List.mem_of_getElem? (i := 960) (by decide +kernel), List.mem_of_getElem? (i := 961) (by decide +kernel)⟩
theorem lw_p34 : lw_okq (⟨"SaintHillModel", "goes", "(II)I"⟩, 24) := ⟨⟨by decide +kernel, by decide +kernel⟩, List.mem_of_getElem? (i := 752) (by decide +kernel), List.mem_of_getElem? (i := 964) (by decide +kernel), List.mem_of_getElem? (i := 965) (by decide +kernel)⟩
theorem lw_p35 : lw_okq (⟨"SaintHillModel", "holdsIt", "(II)Z"⟩, 24) := ⟨⟨by decide +kernel, by decide +kernel⟩, List.mem_of_getElem? (i := 752) (by decide +kernel), List.mem_of_getElem? (i := 971) (by decide +kernel), List.mem_of_getElem? (i := 972) (by decide +kernel)⟩
theorem lw_p36 : lw_okq (⟨"SaintHillModel", "slows", "(II)I"⟩, 24) := ⟨⟨by decide +kernel, by decide +kernel⟩, List.mem_of_getElem? (i := 752) (by decide +kernel), List.mem_of_getElem? (i := 978) (by decide +kernel), List.mem_of_getElem? (i := 979) (by decide +kernel)⟩
theorem lw_p37 : lw_okq (⟨"SaintHillModel", "turns", "(III)I"⟩, 24) := ⟨⟨by decide +kernel, by decide +kernel⟩, List.mem_of_getElem? (i := 752) (by decide +kernel), List.mem_of_getElem? (i := 982) (by decide +kernel), List.mem_of_getElem? (i := 983) (by decide +kernel)⟩
theorem lw_p38 : lw_okq (⟨"SaintHillModel", "isHouse", "(I)Z"⟩, 24) := ⟨⟨by decide +kernel, by decide +kernel⟩, List.mem_of_getElem? (i := 752) (by decide +kernel), List.mem_of_getElem? (i := 990) (by decide +kernel), List.mem_of_getElem? (i := 991) (by decide +kernel)⟩
theorem lw_p39 : lw_okq (⟨"SaintHillModel", "isPlace", "(II)Z"⟩, 24) := ⟨⟨by decide +kernel, by decide +kernel⟩, List.mem_of_getElem? (i := 752) (by decide +kernel), List.mem_of_getElem? (i := 998) (by decide +kernel), List.mem_of_getElem? (i := 999) (by decide +kernel)⟩
theorem lw_p40 : lw_okq (⟨"SaintHillModel", "noYears", "(I)I"⟩, 24) := ⟨⟨by decide +kernel, by decide +kernel⟩, List.mem_of_getElem? (i := 752) (by decide +kernel), List.mem_of_getElem? (i := 1020) (by decide +kernel), List.mem_of_getElem? (i := 1021) (by decide +kernel)⟩
theorem lw_p41 : lw_okq (⟨"SaintHillModel", "layTried", "()V"⟩, 24) := ⟨⟨by decide +kernel, by decide +kernel⟩, List.mem_of_getElem? (i := 752) (by decide +kernel), List.mem_of_getElem? (i := 1025) (by decide +kernel), List.mem_of_getElem? (i := 1026) (by decide +kernel)⟩
theorem lw_p42 : lw_okq (⟨"SaintHillModel", "restsIn", "(I)I"⟩, 24) := ⟨⟨by decide +kernel, by decide +kernel⟩, List.mem_of_getElem? (i := 752) (by decide +kernel), List.mem_of_getElem? (i := 1029) (by decide +kernel), List.mem_of_getElem? (i := 1030) (by decide +kernel)⟩
theorem lw_p43 : lw_okq (⟨"SaintHillModel", "oftenTried", "(II)I"⟩, 24) := ⟨⟨by decide +kernel, by decide +kernel⟩, List.mem_of_getElem? (i := 752) (by decide +kernel), List.mem_of_getElem? (i := 1049) (by decide +kernel), List.mem_of_getElem? (i := 1050) (by decide +kernel)⟩
theorem lw_p44 : lw_okq (⟨"SaintHillModel", "fewest", "(IZI)I"⟩, 24) := ⟨⟨by decide +kernel, by decide +kernel⟩, List.mem_of_getElem? (i := 752) (by decide +kernel), List.mem_of_getElem? (i := 1057) (by decide +kernel), List.mem_of_getElem? (i := 1058) (by decide +kernel)⟩
theorem lw_p45 : lw_okq (⟨"SaintHillModel", "restsOtherwise", "(II)I"⟩, 24) := ⟨⟨by decide +kernel, by decide +kernel⟩, List.mem_of_getElem? (i := 752) (by decide +kernel), List.mem_of_getElem? (i := 1061) (by decide +kernel), List.mem_of_getElem? (i := 1062) (by decide +kernel)⟩
theorem lw_p46 : lw_okq (⟨"SaintHillModel", "sulksTried", "()I"⟩, 24) := ⟨⟨by decide +kernel, by decide +kernel⟩, List.mem_of_getElem? (i := 752) (by decide +kernel), List.mem_of_getElem? (i := 1081) (by decide +kernel), List.mem_of_getElem? (i := 1082) (by decide +kernel)⟩
theorem lw_p47 : lw_okq (⟨"SaintHillModel", "noItems", "(III)I"⟩, 24) := ⟨⟨by decide +kernel, by decide +kernel⟩, List.mem_of_getElem? (i := 752) (by decide +kernel), List.mem_of_getElem? (i := 1095) (by decide +kernel), List.mem_of_getElem? (i := 1096) (by decide +kernel)⟩
def lw_privs_3 : List (MethodName × Nat) := [(⟨"SaintHillModel", "rollsNow", "(I)I"⟩, 24), (⟨"SaintHillModel", "startOf", "(I)I"⟩, 24), (⟨"SaintHillModel", "goes", "(II)I"⟩, 24), (⟨"SaintHillModel", "holdsIt", "(II)Z"⟩, 24), (⟨"SaintHillModel", "slows", "(II)I"⟩, 24), (⟨"SaintHillModel", "turns", "(III)I"⟩, 24), (⟨"SaintHillModel", "isHouse", "(I)Z"⟩, 24), (⟨"SaintHillModel", "isPlace", "(II)Z"⟩, 24), (⟨"SaintHillModel", "noYears", "(I)I"⟩, 24), (⟨"SaintHillModel", "layTried", "()V"⟩, 24), (⟨"SaintHillModel", "restsIn", "(I)I"⟩, 24), (⟨"SaintHillModel", "oftenTried", "(II)I"⟩, 24), (⟨"SaintHillModel", "fewest", "(IZI)I"⟩, 24), (⟨"SaintHillModel", "restsOtherwise", "(II)I"⟩, 24), (⟨"SaintHillModel", "sulksTried", "()I"⟩, 24), (⟨"SaintHillModel", "noItems", "(III)I"⟩, 24)]
theorem lw_r3 : ∀ q ∈ lw_privs_3, lw_okq q := List.forall_mem_cons.mpr ⟨lw_p32, List.forall_mem_cons.mpr ⟨lw_p33, List.forall_mem_cons.mpr ⟨lw_p34, List.forall_mem_cons.mpr ⟨lw_p35, List.forall_mem_cons.mpr ⟨lw_p36, List.forall_mem_cons.mpr ⟨lw_p37, List.forall_mem_cons.mpr ⟨lw_p38, List.forall_mem_cons.mpr ⟨lw_p39, List.forall_mem_cons.mpr ⟨lw_p40, List.forall_mem_cons.mpr ⟨lw_p41, List.forall_mem_cons.mpr ⟨lw_p42, List.forall_mem_cons.mpr ⟨lw_p43, List.forall_mem_cons.mpr ⟨lw_p44, List.forall_mem_cons.mpr ⟨lw_p45, List.forall_mem_cons.mpr ⟨lw_p46, List.forall_mem_cons.mpr ⟨lw_p47, fun _ h => absurd h List.not_mem_nil⟩⟩⟩⟩⟩⟩⟩⟩⟩⟩⟩⟩⟩⟩⟩⟩
theorem lw_p48 : lw_okq (⟨"SaintHillModel", "isSo", "(III)Z"⟩, 24) := ⟨⟨by decide +kernel, by decide +kernel⟩, List.mem_of_getElem? (i := 752) (by decide +kernel), List.mem_of_getElem? (i := 1099) (by decide +kernel), List.mem_of_getElem? (i := 1100) (by decide +kernel)⟩
theorem lw_p49 : lw_okq (⟨"SaintHillModel", "isOf", "(II)Z"⟩, 24) := ⟨⟨by decide +kernel, by decide +kernel⟩, List.mem_of_getElem? (i := 752) (by decide +kernel), List.mem_of_getElem? (i := 1136) (by decide +kernel), List.mem_of_getElem? (i := 1137) (by decide +kernel)⟩
theorem lw_p50 : lw_okq (⟨"SaintHillModel", "sizeOf", "(I)I"⟩, 24) := ⟨⟨by decide +kernel, by decide +kernel⟩, List.mem_of_getElem? (i := 752) (by decide +kernel), List.mem_of_getElem? (i := 1144) (by decide +kernel), List.mem_of_getElem? (i := 1145) (by decide +kernel)⟩
theorem lw_p51 : lw_okq (⟨"SaintHillModel", "begin", "(I)V"⟩, 24) := ⟨⟨by decide +kernel, by decide +kernel⟩, List.mem_of_getElem? (i := 752) (by decide +kernel), List.mem_of_getElem? (i := 1148) (by decide +kernel), List.mem_of_getElem? (i := 1149) (by decide +kernel)⟩
theorem lw_p52 : lw_okq (⟨"SaintHillModel", "doorSize", "(I)I"⟩, 24) := ⟨⟨by decide +kernel, by decide +kernel⟩, List.mem_of_getElem? (i := 752) (by decide +kernel), List.mem_of_getElem? (i := 1152) (by decide +kernel), List.mem_of_getElem? (i := 1153) (by decide +kernel)⟩
theorem lw_p53 : lw_okq (⟨"SaintHillModel", "lentSize", "(I)I"⟩, 24) := ⟨⟨by decide +kernel, by decide +kernel⟩, List.mem_of_getElem? (i := 752) (by decide +kernel), List.mem_of_getElem? (i := 1156) (by decide +kernel), List.mem_of_getElem? (i := 1157) (by decide +kernel)⟩
theorem lw_p54 : lw_okq (⟨"SaintHillModel", "mark", "(I)I"⟩, 24) := ⟨⟨by decide +kernel, by decide +kernel⟩, List.mem_of_getElem? (i := 752) (by decide +kernel), List.mem_of_getElem? (i := 1160) (by decide +kernel), List.mem_of_getElem? (i := 1161) (by decide +kernel)⟩
theorem lw_p55 : lw_okq (⟨"SaintHillModel", "doorMark", "(I)I"⟩, 24) := ⟨⟨by decide +kernel, by decide +kernel⟩, List.mem_of_getElem? (i := 752) (by decide +kernel), List.mem_of_getElem? (i := 1164) (by decide +kernel), List.mem_of_getElem? (i := 1165) (by decide +kernel)⟩
theorem lw_p56 : lw_okq (⟨"SaintHillModel", "lentMark", "(I)I"⟩, 24) := ⟨⟨by decide +kernel, by decide +kernel⟩, List.mem_of_getElem? (i := 752) (by decide +kernel), List.mem_of_getElem? (i := 1168) (by decide +kernel), List.mem_of_getElem? (i := 1169) (by decide +kernel)⟩
theorem lw_p57 : lw_okq (⟨"SaintHillModel", "wallSize", "(I)I"⟩, 24) := ⟨⟨by decide +kernel, by decide +kernel⟩, List.mem_of_getElem? (i := 752) (by decide +kernel), List.mem_of_getElem? (i := 1172) (by decide +kernel), List.mem_of_getElem? (i := 1173) (by decide +kernel)⟩
theorem lw_p58 : lw_okq (⟨"SaintHillModel", "wallMark", "(I)I"⟩, 24) := ⟨⟨by decide +kernel, by decide +kernel⟩, List.mem_of_getElem? (i := 752) (by decide +kernel), List.mem_of_getElem? (i := 1176) (by decide +kernel), List.mem_of_getElem? (i := 1177) (by decide +kernel)⟩
theorem lw_p59 : lw_okq (⟨"SaintHillModel", "gotByAll", "()I"⟩, 24) := ⟨⟨by decide +kernel, by decide +kernel⟩, List.mem_of_getElem? (i := 752) (by decide +kernel), List.mem_of_getElem? (i := 1188) (by decide +kernel), List.mem_of_getElem? (i := 1189) (by decide +kernel)⟩
def lw_privs_4 : List (MethodName × Nat) := [(⟨"SaintHillModel", "isSo", "(III)Z"⟩, 24), (⟨"SaintHillModel", "isOf", "(II)Z"⟩, 24), (⟨"SaintHillModel", "sizeOf", "(I)I"⟩, 24), (⟨"SaintHillModel", "begin", "(I)V"⟩, 24), (⟨"SaintHillModel", "doorSize", "(I)I"⟩, 24), (⟨"SaintHillModel", "lentSize", "(I)I"⟩, 24), (⟨"SaintHillModel", "mark", "(I)I"⟩, 24), (⟨"SaintHillModel", "doorMark", "(I)I"⟩, 24), (⟨"SaintHillModel", "lentMark", "(I)I"⟩, 24), (⟨"SaintHillModel", "wallSize", "(I)I"⟩, 24), (⟨"SaintHillModel", "wallMark", "(I)I"⟩, 24), (⟨"SaintHillModel", "gotByAll", "()I"⟩, 24)]
theorem lw_r4 : ∀ q ∈ lw_privs_4, lw_okq q := List.forall_mem_cons.mpr ⟨lw_p48, List.forall_mem_cons.mpr ⟨lw_p49, List.forall_mem_cons.mpr ⟨lw_p50, List.forall_mem_cons.mpr ⟨lw_p51, List.forall_mem_cons.mpr ⟨lw_p52, List.forall_mem_cons.mpr ⟨lw_p53, List.forall_mem_cons.mpr ⟨lw_p54, List.forall_mem_cons.mpr ⟨lw_p55, List.forall_mem_cons.mpr ⟨lw_p56, List.forall_mem_cons.mpr ⟨lw_p57, List.forall_mem_cons.mpr ⟨lw_p58, List.forall_mem_cons.mpr ⟨lw_p59, fun _ h => absurd h List.not_mem_nil⟩⟩⟩⟩⟩⟩⟩⟩⟩⟩⟩⟩
def lw_privs : List (MethodName × Nat) := lw_privs_1 ++ (lw_privs_2 ++ (lw_privs_3 ++ (lw_privs_4)))
def lw_tbl : List Cond := k2_sels lw_privs ++ tables_1
theorem lw_privs_ok : ∀ q ∈ lw_privs, lw_okq q := by
  show ∀ q ∈ lw_privs_1 ++ (lw_privs_2 ++ (lw_privs_3 ++ (lw_privs_4))), lw_okq q
  exact List.forall_mem_append.mpr ⟨lw_r1, List.forall_mem_append.mpr ⟨lw_r2, List.forall_mem_append.mpr ⟨lw_r3, lw_r4⟩⟩⟩
end
section
def RX0 : String := "SaintHill$Acts"
def TX0 : u_T := fun k => match k with
  | 0 => ("SaintHill$Acts", "sorts", "[I", true)
  | 1 => ("SaintHill$Acts", "houses", "[I", true)
  | 2 => ("SaintHill$Acts", "before", "[I", true)
  | _ => ("SaintHill$Acts", "kept", "I", false)
def tyX0 : Nat → FieldType := fun k => match k with
  | 0 => .array .int
  | 1 => .array .int
  | 2 => .array .int
  | _ => .int
abbrev wsX00 : List Cond := u_ws RX0 TX0 4
theorem nmX0 : ∀ a, a < 4 → ∀ b, b < 4 → a ≠ b → (TX0 a).2.1 ≠ (TX0 b).2.1 := by decide +kernel
theorem tyX0_ok : ∀ k, k < 4 → parseFieldDescriptor (TX0 k).2.2.1 = some (tyX0 k) := by decide +kernel
abbrev cX0_init : ByteArray := prog_2_method_1_code
def yX0_init : MethodName := ⟨RX0, "<init>", "()V"⟩
abbrev cX0_keep : ByteArray := prog_2_method_2_code
def yX0_keep : MethodName := ⟨RX0, "keep", "(III)V"⟩
abbrev cX0_forgetOldest : ByteArray := prog_2_method_3_code
def yX0_forgetOldest : MethodName := ⟨RX0, "forgetOldest", "()V"⟩
abbrev cX0_takeBackLatest : ByteArray := prog_2_method_4_code
def yX0_takeBackLatest : MethodName := ⟨RX0, "takeBackLatest", "(LSaintHill$Hill;)V"⟩
def RX1 : String := "SaintHill$Hill"
def TX1 : u_T := fun k => match k with
  | 0 => ("SaintHill$Hill", "houses", "[LSaintHill$House;", true)
  | 1 => ("SaintHill$Hill", "roll", "LSaintHill$Roll;", true)
  | 2 => ("SaintHill$Hill", "told", "Z", false)
  | 3 => ("SaintHill$Hill", "tiers", "I", false)
  | 4 => ("SaintHill$Hill", "start", "I", false)
  | 5 => ("SaintHill$Hill", "drift", "I", false)
  | 6 => ("SaintHill$Hill", "speed", "I", false)
  | 7 => ("SaintHill$Hill", "tend", "I", false)
  | 8 => ("SaintHill$Hill", "every", "I", false)
  | 9 => ("SaintHill$Hill", "year", "I", false)
  | 10 => ("SaintHill$Hill", "count", "I", false)
  | _ => ("SaintHill$Hill", "open", "I", false)
def tyX1 : Nat → FieldType := fun k => match k with
  | 0 => .array (.object "SaintHill$House")
  | 1 => .object "SaintHill$Roll"
  | 2 => .boolean
  | 3 => .int
  | 4 => .int
  | 5 => .int
  | 6 => .int
  | 7 => .int
  | 8 => .int
  | 9 => .int
  | 10 => .int
  | _ => .int
abbrev wsX10 : List Cond := u_ws RX1 TX1 12
theorem nmX1 : ∀ a, a < 12 → ∀ b, b < 12 → a ≠ b → (TX1 a).2.1 ≠ (TX1 b).2.1 := by decide +kernel
theorem tyX1_ok : ∀ k, k < 12 → parseFieldDescriptor (TX1 k).2.2.1 = some (tyX1 k) := by decide +kernel
abbrev cX1_init : ByteArray := prog_3_method_1_code
def yX1_init : MethodName := ⟨RX1, "<init>", "()V"⟩
abbrev cX1_become : ByteArray := prog_3_method_2_code
def yX1_become : MethodName := ⟨RX1, "become", "(LSaintHill$Hill;)V"⟩
abbrev cX1_clear : ByteArray := prog_3_method_3_code
def yX1_clear : MethodName := ⟨RX1, "clear", "()V"⟩
abbrev cX1_putLaw : ByteArray := prog_3_method_4_code
def yX1_putLaw : MethodName := ⟨RX1, "putLaw", "(II)V"⟩
abbrev cX1_addHouse : ByteArray := prog_3_method_5_code
def yX1_addHouse : MethodName := ⟨RX1, "addHouse", "(IIII)V"⟩
abbrev cX1_allHouses : ByteArray := prog_3_method_6_code
def yX1_allHouses : MethodName := ⟨RX1, "allHouses", "()I"⟩
abbrev cX1_openness : ByteArray := prog_3_method_7_code
def yX1_openness : MethodName := ⟨RX1, "openness", "(I)I"⟩
abbrev cX1_standing : ByteArray := prog_3_method_8_code
def yX1_standing : MethodName := ⟨RX1, "standing", "(II)I"⟩
abbrev cX1_topLine : ByteArray := prog_3_method_9_code
def yX1_topLine : MethodName := ⟨RX1, "topLine", "(I)I"⟩
abbrev cX1_restIn : ByteArray := prog_3_method_10_code
def yX1_restIn : MethodName := ⟨RX1, "restIn", "(I)I"⟩
abbrev cX1_letGo : ByteArray := prog_3_method_11_code
def yX1_letGo : MethodName := ⟨RX1, "letGo", "(I)I"⟩
abbrev cX1_meet : ByteArray := prog_3_method_12_code
def yX1_meet : MethodName := ⟨RX1, "meet", "(II)V"⟩
abbrev cX1_firstAt : ByteArray := prog_3_method_13_code
def yX1_firstAt : MethodName := ⟨RX1, "firstAt", "(I)I"⟩
abbrev cX1_timesAt : ByteArray := prog_3_method_14_code
def yX1_timesAt : MethodName := ⟨RX1, "timesAt", "(II)I"⟩
abbrev cX1_passYear : ByteArray := prog_3_method_15_code
def yX1_passYear : MethodName := ⟨RX1, "passYear", "()I"⟩
abbrev cX1_forgetGot : ByteArray := prog_3_method_16_code
def yX1_forgetGot : MethodName := ⟨RX1, "forgetGot", "()V"⟩
abbrev cX1_allGot : ByteArray := prog_3_method_17_code
def yX1_allGot : MethodName := ⟨RX1, "allGot", "()I"⟩
abbrev cX1_mostFavoured : ByteArray := prog_3_method_18_code
def yX1_mostFavoured : MethodName := ⟨RX1, "mostFavoured", "()I"⟩
def RX2 : String := "SaintHill$House"
def TX2 : u_T := fun k => match k with
  | 0 => ("SaintHill$House", "kind", "I", false)
  | 1 => ("SaintHill$House", "tier", "I", false)
  | 2 => ("SaintHill$House", "line", "I", false)
  | 3 => ("SaintHill$House", "wants", "I", false)
  | _ => ("SaintHill$House", "got", "I", false)
def tyX2 : Nat → FieldType := fun k => match k with
  | 0 => .int
  | 1 => .int
  | 2 => .int
  | 3 => .int
  | _ => .int
abbrev wsX20 : List Cond := u_ws RX2 TX2 5
theorem nmX2 : ∀ a, a < 5 → ∀ b, b < 5 → a ≠ b → (TX2 a).2.1 ≠ (TX2 b).2.1 := by decide +kernel
theorem tyX2_ok : ∀ k, k < 5 → parseFieldDescriptor (TX2 k).2.2.1 = some (tyX2 k) := by decide +kernel
abbrev cX2_init : ByteArray := prog_4_method_1_code
def yX2_init : MethodName := ⟨RX2, "<init>", "()V"⟩
abbrev cX2_become : ByteArray := prog_4_method_2_code
def yX2_become : MethodName := ⟨RX2, "become", "(LSaintHill$House;)V"⟩
abbrev cX2_stand : ByteArray := prog_4_method_3_code
def yX2_stand : MethodName := ⟨RX2, "stand", "(II)V"⟩
abbrev cX2_cell : ByteArray := prog_4_method_4_code
def yX2_cell : MethodName := ⟨RX2, "cell", "()I"⟩
def RX3 : String := "SaintHill$Roll"
def TX3 : u_T := fun k => match k with
  | 0 => ("SaintHill$Roll", "lines", "[I", true)
  | 1 => ("SaintHill$Roll", "reached", "I", false)
  | 2 => ("SaintHill$Roll", "line", "I", false)
  | 3 => ("SaintHill$Roll", "speed", "I", false)
  | 4 => ("SaintHill$Roll", "house", "I", false)
  | _ => ("SaintHill$Roll", "resting", "Z", false)
def tyX3 : Nat → FieldType := fun k => match k with
  | 0 => .array .int
  | 1 => .int
  | 2 => .int
  | 3 => .int
  | 4 => .int
  | _ => .boolean
abbrev wsX30 : List Cond := u_ws RX3 TX3 6
theorem nmX3 : ∀ a, a < 6 → ∀ b, b < 6 → a ≠ b → (TX3 a).2.1 ≠ (TX3 b).2.1 := by decide +kernel
theorem tyX3_ok : ∀ k, k < 6 → parseFieldDescriptor (TX3 k).2.2.1 = some (tyX3 k) := by decide +kernel
abbrev cX3_init : ByteArray := prog_5_method_1_code
def yX3_init : MethodName := ⟨RX3, "<init>", "()V"⟩
abbrev cX3_begin : ByteArray := prog_5_method_2_code
def yX3_begin : MethodName := ⟨RX3, "begin", "(II)V"⟩
abbrev cX3_reach : ByteArray := prog_5_method_3_code
def yX3_reach : MethodName := ⟨RX3, "reach", "(I)V"⟩
abbrev cX3_turn : ByteArray := prog_5_method_4_code
def yX3_turn : MethodName := ⟨RX3, "turn", "(I)V"⟩
abbrev cX3_restAt : ByteArray := prog_5_method_5_code
def yX3_restAt : MethodName := ⟨RX3, "restAt", "(I)V"⟩
def RX4 : String := "SaintHill$Row"
def TX4 : u_T := fun k => match k with
  | 0 => ("SaintHill$Row", "items", "[I", true)
  | 1 => ("SaintHill$Row", "missing", "Z", false)
  | 2 => ("SaintHill$Row", "lane", "I", false)
  | _ => ("SaintHill$Row", "size", "I", false)
def tyX4 : Nat → FieldType := fun k => match k with
  | 0 => .array .int
  | 1 => .boolean
  | 2 => .int
  | _ => .int
abbrev wsX40 : List Cond := u_ws RX4 TX4 4
theorem nmX4 : ∀ a, a < 4 → ∀ b, b < 4 → a ≠ b → (TX4 a).2.1 ≠ (TX4 b).2.1 := by decide +kernel
theorem tyX4_ok : ∀ k, k < 4 → parseFieldDescriptor (TX4 k).2.2.1 = some (tyX4 k) := by decide +kernel
abbrev cX4_init : ByteArray := prog_6_method_1_code
def yX4_init : MethodName := ⟨RX4, "<init>", "()V"⟩
abbrev cX4_begin : ByteArray := prog_6_method_2_code
def yX4_begin : MethodName := ⟨RX4, "begin", "(II)V"⟩
abbrev cX4_reaches : ByteArray := prog_6_method_3_code
def yX4_reaches : MethodName := ⟨RX4, "reaches", "(II)Z"⟩
abbrev cX4_cut : ByteArray := prog_6_method_4_code
def yX4_cut : MethodName := ⟨RX4, "cut", "(I)I"⟩
def RX5 : String := "SaintHill$Seer"
def TX5 : u_T := fun k => match k with
  | 0 => ("SaintHill$Seer", "trial", "LSaintHill$Hill;", true)
  | _ => ("SaintHill$Seer", "bestTimes", "I", false)
def tyX5 : Nat → FieldType := fun k => match k with
  | 0 => .object "SaintHill$Hill"
  | _ => .int
abbrev wsX50 : List Cond := u_ws RX5 TX5 2
theorem nmX5 : ∀ a, a < 2 → ∀ b, b < 2 → a ≠ b → (TX5 a).2.1 ≠ (TX5 b).2.1 := by decide +kernel
theorem tyX5_ok : ∀ k, k < 2 → parseFieldDescriptor (TX5 k).2.2.1 = some (tyX5 k) := by decide +kernel
abbrev cX5_init : ByteArray := prog_7_method_1_code
def yX5_init : MethodName := ⟨RX5, "<init>", "()V"⟩
abbrev cX5_fewestDoors : ByteArray := prog_7_method_2_code
def yX5_fewestDoors : MethodName := ⟨RX5, "fewestDoors", "(LSaintHill$Hill;II)I"⟩
abbrev cX5_bestCell : ByteArray := prog_7_method_3_code
def yX5_bestCell : MethodName := ⟨RX5, "bestCell", "(LSaintHill$Hill;II)I"⟩
abbrev cX5_sulkersNow : ByteArray := prog_7_method_4_code
def yX5_sulkersNow : MethodName := ⟨RX5, "sulkersNow", "(LSaintHill$Hill;)I"⟩
abbrev cX5_sulkers : ByteArray := prog_7_method_5_code
def yX5_sulkers : MethodName := ⟨RX5, "sulkers", "()I"⟩
abbrev cX5_turnsToPeace : ByteArray := prog_7_method_6_code
def yX5_turnsToPeace : MethodName := ⟨RX5, "turnsToPeace", "(LSaintHill$Hill;)I"⟩
abbrev cX5_lawsThatFit : ByteArray := prog_7_method_7_code
def yX5_lawsThatFit : MethodName := ⟨RX5, "lawsThatFit", "(LSaintHill$Hill;ILSaintHill$Row;II)I"⟩
abbrev cX5_kindsThatFit : ByteArray := prog_7_method_8_code
def yX5_kindsThatFit : MethodName := ⟨RX5, "kindsThatFit", "(LSaintHill$Hill;ILSaintHill$Row;II)I"⟩
abbrev cX5_fits : ByteArray := prog_7_method_9_code
def yX5_fits : MethodName := ⟨RX5, "fits", "(LSaintHill$Row;II)Z"⟩
abbrev cX5_playedWays : ByteArray := prog_7_method_10_code
def yX5_playedWays : MethodName := ⟨RX5, "playedWays", "(LSaintHill$Hill;II)I"⟩
abbrev cX5_drawCentury : ByteArray := prog_7_method_11_code
def yX5_drawCentury : MethodName := ⟨RX5, "drawCentury", "(LSaintHill$Hill;II)V"⟩
def RX6 : String := "SaintHill$Tape"
def TX6 : u_T := fun k => match k with
  | 0 => ("SaintHill$Tape", "bytes", "[I", true)
  | 1 => ("SaintHill$Tape", "size", "I", false)
  | 2 => ("SaintHill$Tape", "at", "I", false)
  | 3 => ("SaintHill$Tape", "fault", "I", false)
  | _ => ("SaintHill$Tape", "place", "I", false)
def tyX6 : Nat → FieldType := fun k => match k with
  | 0 => .array .int
  | 1 => .int
  | 2 => .int
  | 3 => .int
  | _ => .int
abbrev wsX60 : List Cond := u_ws RX6 TX6 5
theorem nmX6 : ∀ a, a < 5 → ∀ b, b < 5 → a ≠ b → (TX6 a).2.1 ≠ (TX6 b).2.1 := by decide +kernel
theorem tyX6_ok : ∀ k, k < 5 → parseFieldDescriptor (TX6 k).2.2.1 = some (tyX6 k) := by decide +kernel
abbrev cX6_init : ByteArray := prog_8_method_1_code
def yX6_init : MethodName := ⟨RX6, "<init>", "()V"⟩
abbrev cX6_append : ByteArray := prog_8_method_2_code
def yX6_append : MethodName := ⟨RX6, "append", "(I)Z"⟩
abbrev cX6_readInto : ByteArray := prog_8_method_3_code
def yX6_readInto : MethodName := ⟨RX6, "readInto", "(LSaintHill$Hill;)Z"⟩
abbrev cX6_readLaw : ByteArray := prog_8_method_4_code
def yX6_readLaw : MethodName := ⟨RX6, "readLaw", "(LSaintHill$Hill;)Z"⟩
abbrev cX6_readHouse : ByteArray := prog_8_method_5_code
def yX6_readHouse : MethodName := ⟨RX6, "readHouse", "(LSaintHill$Hill;)Z"⟩
abbrev cX6_readSign : ByteArray := prog_8_method_6_code
def yX6_readSign : MethodName := ⟨RX6, "readSign", "(I)Z"⟩
abbrev cX6_readNumber : ByteArray := prog_8_method_7_code
def yX6_readNumber : MethodName := ⟨RX6, "readNumber", "(II)I"⟩
abbrev cX6_peek : ByteArray := prog_8_method_8_code
def yX6_peek : MethodName := ⟨RX6, "peek", "(I)I"⟩
abbrev cX6_fail : ByteArray := prog_8_method_9_code
def yX6_fail : MethodName := ⟨RX6, "fail", "(II)Z"⟩
abbrev cX6_kindOf : ByteArray := prog_8_method_10_code
def yX6_kindOf : MethodName := ⟨RX6, "kindOf", "(I)I"⟩
def RX7 : String := "SaintHill$Trace"
def TX7 : u_T := fun k => match k with
  | 0 => ("SaintHill$Trace", "bodies", "[I", true)
  | _ => ("SaintHill$Trace", "size", "I", false)
def tyX7 : Nat → FieldType := fun k => match k with
  | 0 => .array .int
  | _ => .int
abbrev wsX70 : List Cond := u_ws RX7 TX7 2
theorem nmX7 : ∀ a, a < 2 → ∀ b, b < 2 → a ≠ b → (TX7 a).2.1 ≠ (TX7 b).2.1 := by decide +kernel
theorem tyX7_ok : ∀ k, k < 2 → parseFieldDescriptor (TX7 k).2.2.1 = some (tyX7 k) := by decide +kernel
abbrev cX7_init : ByteArray := prog_9_method_1_code
def yX7_init : MethodName := ⟨RX7, "<init>", "()V"⟩
abbrev cX7_leave : ByteArray := prog_9_method_2_code
def yX7_leave : MethodName := ⟨RX7, "leave", "(I)V"⟩
abbrev cX7_answer : ByteArray := prog_9_method_3_code
def yX7_answer : MethodName := ⟨RX7, "answer", "(LSaintHill$Trace;LSaintHill$House;II)I"⟩
abbrev cX7_bodyFor : ByteArray := prog_9_method_4_code
def yX7_bodyFor : MethodName := ⟨RX7, "bodyFor", "(LSaintHill$House;I)I"⟩
abbrev cX7_give : ByteArray := prog_9_method_5_code
def yX7_give : MethodName := ⟨RX7, "give", "(LSaintHill$Trace;LSaintHill$House;III)I"⟩
def RX8 : String := "SaintHill"
def TX8 : u_T := fun k => match k with
  | 0 => ("SaintHill", "rows", "[LSaintHill$Row;", true)
  | 1 => ("SaintHill", "tape", "LSaintHill$Tape;", true)
  | 2 => ("SaintHill", "hill", "LSaintHill$Hill;", true)
  | 3 => ("SaintHill", "draft", "LSaintHill$Hill;", true)
  | 4 => ("SaintHill", "images", "[LSaintHill$Hill;", true)
  | 5 => ("SaintHill", "acts", "LSaintHill$Acts;", true)
  | 6 => ("SaintHill", "seer", "LSaintHill$Seer;", true)
  | 7 => ("SaintHill", "asked", "LSaintHill$Trace;", true)
  | 8 => ("SaintHill", "latestFault", "I", false)
  | _ => ("SaintHill", "finding", "I", false)
def tyX8 : Nat → FieldType := fun k => match k with
  | 0 => .array (.object "SaintHill$Row")
  | 1 => .object "SaintHill$Tape"
  | 2 => .object "SaintHill$Hill"
  | 3 => .object "SaintHill$Hill"
  | 4 => .array (.object "SaintHill$Hill")
  | 5 => .object "SaintHill$Acts"
  | 6 => .object "SaintHill$Seer"
  | 7 => .object "SaintHill$Trace"
  | 8 => .int
  | _ => .int
abbrev wsX80 : List Cond := u_ws RX8 TX8 10
theorem nmX8 : ∀ a, a < 10 → ∀ b, b < 10 → a ≠ b → (TX8 a).2.1 ≠ (TX8 b).2.1 := by decide +kernel
theorem tyX8_ok : ∀ k, k < 10 → parseFieldDescriptor (TX8 k).2.2.1 = some (tyX8 k) := by decide +kernel
abbrev cX8_init : ByteArray := prog_1_method_1_code
def yX8_init : MethodName := ⟨RX8, "<init>", "()V"⟩
abbrev cX8_row : ByteArray := prog_1_method_2_code
def yX8_row : MethodName := ⟨RX8, "row", "(III)I"⟩
abbrev cX8_set : ByteArray := prog_1_method_3_code
def yX8_set : MethodName := ⟨RX8, "set", "(III)I"⟩
abbrev cX8_copy : ByteArray := prog_1_method_4_code
def yX8_copy : MethodName := ⟨RX8, "copy", "(IIIII)I"⟩
abbrev cX8_drop : ByteArray := prog_1_method_5_code
def yX8_drop : MethodName := ⟨RX8, "drop", "(I)I"⟩
abbrev cX8_feed : ByteArray := prog_1_method_6_code
def yX8_feed : MethodName := ⟨RX8, "feed", "(I)I"⟩
abbrev cX8_hill : ByteArray := prog_1_method_7_code
def yX8_hill : MethodName := ⟨RX8, "hill", "()I"⟩
abbrev cX8_fault : ByteArray := prog_1_method_8_code
def yX8_fault : MethodName := ⟨RX8, "fault", "()I"⟩
abbrev cX8_years : ByteArray := prog_1_method_9_code
def yX8_years : MethodName := ⟨RX8, "years", "(I)I"⟩
abbrev cX8_door : ByteArray := prog_1_method_10_code
def yX8_door : MethodName := ⟨RX8, "door", "(II)I"⟩
abbrev cX8_build : ByteArray := prog_1_method_11_code
def yX8_build : MethodName := ⟨RX8, "build", "(III)I"⟩
abbrev cX8_speed : ByteArray := prog_1_method_12_code
def yX8_speed : MethodName := ⟨RX8, "speed", "(I)I"⟩
abbrev cX8_undo : ByteArray := prog_1_method_13_code
def yX8_undo : MethodName := ⟨RX8, "undo", "()I"⟩
abbrev cX8_house : ByteArray := prog_1_method_14_code
def yX8_house : MethodName := ⟨RX8, "house", "(II)I"⟩
abbrev cX8_at : ByteArray := prog_1_method_15_code
def yX8_at : MethodName := ⟨RX8, "at", "(II)I"⟩
abbrev cX8_rests : ByteArray := prog_1_method_16_code
def yX8_rests : MethodName := ⟨RX8, "rests", "(I)I"⟩
abbrev cX8_line : ByteArray := prog_1_method_17_code
def yX8_line : MethodName := ⟨RX8, "line", "(II)I"⟩
abbrev cX8_left : ByteArray := prog_1_method_18_code
def yX8_left : MethodName := ⟨RX8, "left", "(I)I"⟩
abbrev cX8_next : ByteArray := prog_1_method_19_code
def yX8_next : MethodName := ⟨RX8, "next", "(I)I"⟩
abbrev cX8_often : ByteArray := prog_1_method_20_code
def yX8_often : MethodName := ⟨RX8, "often", "(II)I"⟩
abbrev cX8_aim : ByteArray := prog_1_method_21_code
def yX8_aim : MethodName := ⟨RX8, "aim", "(III)I"⟩
abbrev cX8_shun : ByteArray := prog_1_method_22_code
def yX8_shun : MethodName := ⟨RX8, "shun", "(III)I"⟩
abbrev cX8_site : ByteArray := prog_1_method_23_code
def yX8_site : MethodName := ⟨RX8, "site", "(III)I"⟩
abbrev cX8_sulks : ByteArray := prog_1_method_24_code
def yX8_sulks : MethodName := ⟨RX8, "sulks", "()I"⟩
abbrev cX8_peace : ByteArray := prog_1_method_25_code
def yX8_peace : MethodName := ⟨RX8, "peace", "(I)I"⟩
abbrev cX8_rolls : ByteArray := prog_1_method_26_code
def yX8_rolls : MethodName := ⟨RX8, "rolls", "(IIII)I"⟩
abbrev cX8_sorts : ByteArray := prog_1_method_27_code
def yX8_sorts : MethodName := ⟨RX8, "sorts", "(IIII)I"⟩
abbrev cX8_play : ByteArray := prog_1_method_28_code
def yX8_play : MethodName := ⟨RX8, "play", "(III)I"⟩
abbrev cX8_drawn : ByteArray := prog_1_method_29_code
def yX8_drawn : MethodName := ⟨RX8, "drawn", "(III)I"⟩
abbrev cX8_image : ByteArray := prog_1_method_30_code
def yX8_image : MethodName := ⟨RX8, "image", "(I)I"⟩
abbrev cX8_restore : ByteArray := prog_1_method_31_code
def yX8_restore : MethodName := ⟨RX8, "restore", "(I)I"⟩
abbrev cX8_kind : ByteArray := prog_1_method_32_code
def yX8_kind : MethodName := ⟨RX8, "kind", "(I)I"⟩
abbrev cX8_as : ByteArray := prog_1_method_33_code
def yX8_as : MethodName := ⟨RX8, "as", "(II)I"⟩
abbrev cX8_ask : ByteArray := prog_1_method_34_code
def yX8_ask : MethodName := ⟨RX8, "ask", "(II)I"⟩
abbrev cX8_trace : ByteArray := prog_1_method_35_code
def yX8_trace : MethodName := ⟨RX8, "trace", "(I)I"⟩
abbrev cX8_count : ByteArray := prog_1_method_36_code
def yX8_count : MethodName := ⟨RX8, "count", "(I)I"⟩
abbrev cX8_status : ByteArray := prog_1_method_37_code
def yX8_status : MethodName := ⟨RX8, "status", "()I"⟩
abbrev cX8_found : ByteArray := prog_1_method_38_code
def yX8_found : MethodName := ⟨RX8, "found", "(I)I"⟩
abbrev cX8_fine : ByteArray := prog_1_method_39_code
def yX8_fine : MethodName := ⟨RX8, "fine", "(I)I"⟩
abbrev cX8_isHouse : ByteArray := prog_1_method_40_code
def yX8_isHouse : MethodName := ⟨RX8, "isHouse", "(I)Z"⟩
abbrev cX8_isCell : ByteArray := prog_1_method_41_code
def yX8_isCell : MethodName := ⟨RX8, "isCell", "(II)Z"⟩
abbrev cX8_rowsThere : ByteArray := prog_1_method_42_code
def yX8_rowsThere : MethodName := ⟨RX8, "rowsThere", "()I"⟩
abbrev cX8_isRow : ByteArray := prog_1_method_43_code
def yX8_isRow : MethodName := ⟨RX8, "isRow", "(I)Z"⟩
abbrev cX8_within : ByteArray := prog_1_method_44_code
def yX8_within : MethodName := ⟨RX8, "within", "(III)Z"⟩
abbrev cX8_orNone : ByteArray := prog_1_method_45_code
def yX8_orNone : MethodName := ⟨RX8, "orNone", "(I)I"⟩
abbrev cX8_sizeOrSet : ByteArray := prog_1_method_46_code
def yX8_sizeOrSet : MethodName := ⟨RX8, "sizeOrSet", "(II)I"⟩
abbrev cX8_isOfKind : ByteArray := prog_1_method_47_code
def yX8_isOfKind : MethodName := ⟨RX8, "isOfKind", "(II)Z"⟩
abbrev cX8_power : ByteArray := prog_1_method_48_code
def yX8_power : MethodName := ⟨RX8, "power", "(II)I"⟩
abbrev cX8_commonDivisor : ByteArray := prog_1_method_49_code
def yX8_commonDivisor : MethodName := ⟨RX8, "commonDivisor", "(II)I"⟩
def RX9 : String := "SaintHillModel"
def TX9 : u_T := fun k => match k with
  | 0 => ("SaintHillModel", "row", "[I", true)
  | 1 => ("SaintHillModel", "isHill", "Z", false)
  | 2 => ("SaintHillModel", "undos", "I", false)
  | 3 => ("SaintHillModel", "isKept", "[Z", true)
  | 4 => ("SaintHillModel", "lanes", "[I", true)
  | 5 => ("SaintHillModel", "sizes", "[I", true)
  | 6 => ("SaintHillModel", "items", "[I", true)
  | 7 => ("SaintHillModel", "tape", "[I", true)
  | 8 => ("SaintHillModel", "length", "I", false)
  | 9 => ("SaintHillModel", "fault", "I", false)
  | 10 => ("SaintHillModel", "status", "I", false)
  | 11 => ("SaintHillModel", "trace", "[I", true)
  | 12 => ("SaintHillModel", "traced", "I", false)
  | 13 => ("SaintHillModel", "at", "I", false)
  | 14 => ("SaintHillModel", "wrong", "I", false)
  | 15 => ("SaintHillModel", "number", "I", false)
  | 16 => ("SaintHillModel", "lawLeast", "[I", true)
  | 17 => ("SaintHillModel", "lawMost", "[I", true)
  | 18 => ("SaintHillModel", "lawPlace", "[I", true)
  | 19 => ("SaintHillModel", "lines", "[I", true)
  | 20 => ("SaintHillModel", "speedLeft", "I", false)
  | 21 => ("SaintHillModel", "rollPlace", "[I", true)
  | 22 => ("SaintHillModel", "rollMost", "[I", true)
  | _ => ("SaintHillModel", "tally", "[I", true)
def tyX9 : Nat → FieldType := fun k => match k with
  | 0 => .array .int
  | 1 => .boolean
  | 2 => .int
  | 3 => .array .boolean
  | 4 => .array .int
  | 5 => .array .int
  | 6 => .array .int
  | 7 => .array .int
  | 8 => .int
  | 9 => .int
  | 10 => .int
  | 11 => .array .int
  | 12 => .int
  | 13 => .int
  | 14 => .int
  | 15 => .int
  | 16 => .array .int
  | 17 => .array .int
  | 18 => .array .int
  | 19 => .array .int
  | 20 => .int
  | 21 => .array .int
  | 22 => .array .int
  | _ => .array .int
abbrev wsX90 : List Cond := u_ws RX9 TX9 24
theorem nmX9 : ∀ a, a < 24 → ∀ b, b < 24 → a ≠ b → (TX9 a).2.1 ≠ (TX9 b).2.1 := by decide +kernel
theorem tyX9_ok : ∀ k, k < 24 → parseFieldDescriptor (TX9 k).2.2.1 = some (tyX9 k) := by decide +kernel
abbrev cX9_init : ByteArray := prog_11_method_1_code
def yX9_init : MethodName := ⟨RX9, "<init>", "()V"⟩
abbrev cX9_in : ByteArray := prog_11_method_2_code
def yX9_in : MethodName := ⟨RX9, "in", "(JJJ)Z"⟩
abbrev cX9_has : ByteArray := prog_11_method_3_code
def yX9_has : MethodName := ⟨RX9, "has", "(II)Z"⟩
abbrev cX9_bits : ByteArray := prog_11_method_4_code
def yX9_bits : MethodName := ⟨RX9, "bits", "(I)I"⟩
abbrev cX9_find : ByteArray := prog_11_method_5_code
def yX9_find : MethodName := ⟨RX9, "find", "(I)I"⟩
abbrev cX9_well : ByteArray := prog_11_method_6_code
def yX9_well : MethodName := ⟨RX9, "well", "(I)I"⟩
abbrev cX9_isRow : ByteArray := prog_11_method_7_code
def yX9_isRow : MethodName := ⟨RX9, "isRow", "(I)Z"⟩
abbrev cX9_row : ByteArray := prog_11_method_8_code
def yX9_row : MethodName := ⟨RX9, "row", "(III)I"⟩
abbrev cX9_narrow : ByteArray := prog_11_method_9_code
def yX9_narrow : MethodName := ⟨RX9, "narrow", "(II)I"⟩
abbrev cX9_set : ByteArray := prog_11_method_10_code
def yX9_set : MethodName := ⟨RX9, "set", "(III)I"⟩
abbrev cX9_isSpan : ByteArray := prog_11_method_11_code
def yX9_isSpan : MethodName := ⟨RX9, "isSpan", "(III)Z"⟩
abbrev cX9_copy : ByteArray := prog_11_method_12_code
def yX9_copy : MethodName := ⟨RX9, "copy", "(IIIII)I"⟩
abbrev cX9_drop : ByteArray := prog_11_method_13_code
def yX9_drop : MethodName := ⟨RX9, "drop", "(I)I"⟩
abbrev cX9_feed : ByteArray := prog_11_method_14_code
def yX9_feed : MethodName := ⟨RX9, "feed", "(I)I"⟩
abbrev cX9_isLetter : ByteArray := prog_11_method_15_code
def yX9_isLetter : MethodName := ⟨RX9, "isLetter", "(I)Z"⟩
abbrev cX9_isFigure : ByteArray := prog_11_method_16_code
def yX9_isFigure : MethodName := ⟨RX9, "isFigure", "(I)Z"⟩
abbrev cX9_refuse : ByteArray := prog_11_method_17_code
def yX9_refuse : MethodName := ⟨RX9, "refuse", "(I)Z"⟩
abbrev cX9_sign : ByteArray := prog_11_method_18_code
def yX9_sign : MethodName := ⟨RX9, "sign", "(I)Z"⟩
abbrev cX9_readsNumber : ByteArray := prog_11_method_19_code
def yX9_readsNumber : MethodName := ⟨RX9, "readsNumber", "(II)Z"⟩
abbrev cX9_readsLaw : ByteArray := prog_11_method_20_code
def yX9_readsLaw : MethodName := ⟨RX9, "readsLaw", "()Z"⟩
abbrev cX9_kindOfLetter : ByteArray := prog_11_method_21_code
def yX9_kindOfLetter : MethodName := ⟨RX9, "kindOfLetter", "(I)I"⟩
abbrev cX9_readsHouse : ByteArray := prog_11_method_22_code
def yX9_readsHouse : MethodName := ⟨RX9, "readsHouse", "()Z"⟩
abbrev cX9_isSort : ByteArray := prog_11_method_23_code
def yX9_isSort : MethodName := ⟨RX9, "isSort", "()Z"⟩
abbrev cX9_reads : ByteArray := prog_11_method_24_code
def yX9_reads : MethodName := ⟨RX9, "reads", "()Z"⟩
abbrev cX9_hill : ByteArray := prog_11_method_25_code
def yX9_hill : MethodName := ⟨RX9, "hill", "()I"⟩
abbrev cX9_fault : ByteArray := prog_11_method_26_code
def yX9_fault : MethodName := ⟨RX9, "fault", "()I"⟩
abbrev cX9_copyTown : ByteArray := prog_11_method_27_code
def yX9_copyTown : MethodName := ⟨RX9, "copyTown", "(II)V"⟩
abbrev cX9_keepPast : ByteArray := prog_11_method_28_code
def yX9_keepPast : MethodName := ⟨RX9, "keepPast", "()V"⟩
abbrev cX9_undo : ByteArray := prog_11_method_29_code
def yX9_undo : MethodName := ⟨RX9, "undo", "()I"⟩
abbrev cX9_isHouse : ByteArray := prog_11_method_30_code
def yX9_isHouse : MethodName := ⟨RX9, "isHouse", "(I)Z"⟩
abbrev cX9_houseAt : ByteArray := prog_11_method_31_code
def yX9_houseAt : MethodName := ⟨RX9, "houseAt", "(III)I"⟩
abbrev cX9_kept : ByteArray := prog_11_method_32_code
def yX9_kept : MethodName := ⟨RX9, "kept", "(I)I"⟩
abbrev cX9_turns : ByteArray := prog_11_method_33_code
def yX9_turns : MethodName := ⟨RX9, "turns", "(III)I"⟩
abbrev cX9_slows : ByteArray := prog_11_method_34_code
def yX9_slows : MethodName := ⟨RX9, "slows", "(II)I"⟩
abbrev cX9_holdsIt : ByteArray := prog_11_method_35_code
def yX9_holdsIt : MethodName := ⟨RX9, "holdsIt", "(II)Z"⟩
abbrev cX9_goes : ByteArray := prog_11_method_36_code
def yX9_goes : MethodName := ⟨RX9, "goes", "(II)I"⟩
abbrev cX9_startOf : ByteArray := prog_11_method_37_code
def yX9_startOf : MethodName := ⟨RX9, "startOf", "(I)I"⟩
abbrev cX9_rollsNow : ByteArray := prog_11_method_38_code
def yX9_rollsNow : MethodName := ⟨RX9, "rollsNow", "(I)I"⟩
abbrev cX9_pass : ByteArray := prog_11_method_39_code
def yX9_pass : MethodName := ⟨RX9, "pass", "(I)I"⟩
abbrev cX9_years : ByteArray := prog_11_method_40_code
def yX9_years : MethodName := ⟨RX9, "years", "(I)I"⟩
abbrev cX9_door : ByteArray := prog_11_method_41_code
def yX9_door : MethodName := ⟨RX9, "door", "(II)I"⟩
abbrev cX9_isPlace : ByteArray := prog_11_method_42_code
def yX9_isPlace : MethodName := ⟨RX9, "isPlace", "(II)Z"⟩
abbrev cX9_build : ByteArray := prog_11_method_43_code
def yX9_build : MethodName := ⟨RX9, "build", "(III)I"⟩
abbrev cX9_speed : ByteArray := prog_11_method_44_code
def yX9_speed : MethodName := ⟨RX9, "speed", "(I)I"⟩
abbrev cX9_house : ByteArray := prog_11_method_45_code
def yX9_house : MethodName := ⟨RX9, "house", "(II)I"⟩
abbrev cX9_at : ByteArray := prog_11_method_46_code
def yX9_at : MethodName := ⟨RX9, "at", "(II)I"⟩
abbrev cX9_layTried : ByteArray := prog_11_method_47_code
def yX9_layTried : MethodName := ⟨RX9, "layTried", "()V"⟩
abbrev cX9_restsIn : ByteArray := prog_11_method_48_code
def yX9_restsIn : MethodName := ⟨RX9, "restsIn", "(I)I"⟩
abbrev cX9_noYears : ByteArray := prog_11_method_49_code
def yX9_noYears : MethodName := ⟨RX9, "noYears", "(I)I"⟩
abbrev cX9_rests : ByteArray := prog_11_method_50_code
def yX9_rests : MethodName := ⟨RX9, "rests", "(I)I"⟩
abbrev cX9_line : ByteArray := prog_11_method_51_code
def yX9_line : MethodName := ⟨RX9, "line", "(II)I"⟩
abbrev cX9_left : ByteArray := prog_11_method_52_code
def yX9_left : MethodName := ⟨RX9, "left", "(I)I"⟩
abbrev cX9_next : ByteArray := prog_11_method_53_code
def yX9_next : MethodName := ⟨RX9, "next", "(I)I"⟩
abbrev cX9_oftenTried : ByteArray := prog_11_method_54_code
def yX9_oftenTried : MethodName := ⟨RX9, "oftenTried", "(II)I"⟩
abbrev cX9_often : ByteArray := prog_11_method_55_code
def yX9_often : MethodName := ⟨RX9, "often", "(II)I"⟩
abbrev cX9_restsOtherwise : ByteArray := prog_11_method_56_code
def yX9_restsOtherwise : MethodName := ⟨RX9, "restsOtherwise", "(II)I"⟩
abbrev cX9_fewest : ByteArray := prog_11_method_57_code
def yX9_fewest : MethodName := ⟨RX9, "fewest", "(IZI)I"⟩
abbrev cX9_aim : ByteArray := prog_11_method_58_code
def yX9_aim : MethodName := ⟨RX9, "aim", "(III)I"⟩
abbrev cX9_shun : ByteArray := prog_11_method_59_code
def yX9_shun : MethodName := ⟨RX9, "shun", "(III)I"⟩
abbrev cX9_site : ByteArray := prog_11_method_60_code
def yX9_site : MethodName := ⟨RX9, "site", "(III)I"⟩
abbrev cX9_sulksTried : ByteArray := prog_11_method_61_code
def yX9_sulksTried : MethodName := ⟨RX9, "sulksTried", "()I"⟩
abbrev cX9_sulks : ByteArray := prog_11_method_62_code
def yX9_sulks : MethodName := ⟨RX9, "sulks", "()I"⟩
abbrev cX9_peace : ByteArray := prog_11_method_63_code
def yX9_peace : MethodName := ⟨RX9, "peace", "(I)I"⟩
abbrev cX9_noItems : ByteArray := prog_11_method_64_code
def yX9_noItems : MethodName := ⟨RX9, "noItems", "(III)I"⟩
abbrev cX9_isSo : ByteArray := prog_11_method_65_code
def yX9_isSo : MethodName := ⟨RX9, "isSo", "(III)Z"⟩
abbrev cX9_rolls : ByteArray := prog_11_method_66_code
def yX9_rolls : MethodName := ⟨RX9, "rolls", "(IIII)I"⟩
abbrev cX9_sorts : ByteArray := prog_11_method_67_code
def yX9_sorts : MethodName := ⟨RX9, "sorts", "(IIII)I"⟩
abbrev cX9_play : ByteArray := prog_11_method_68_code
def yX9_play : MethodName := ⟨RX9, "play", "(III)I"⟩
abbrev cX9_drawn : ByteArray := prog_11_method_69_code
def yX9_drawn : MethodName := ⟨RX9, "drawn", "(III)I"⟩
abbrev cX9_image : ByteArray := prog_11_method_70_code
def yX9_image : MethodName := ⟨RX9, "image", "(I)I"⟩
abbrev cX9_restore : ByteArray := prog_11_method_71_code
def yX9_restore : MethodName := ⟨RX9, "restore", "(I)I"⟩
abbrev cX9_kind : ByteArray := prog_11_method_72_code
def yX9_kind : MethodName := ⟨RX9, "kind", "(I)I"⟩
abbrev cX9_isOf : ByteArray := prog_11_method_73_code
def yX9_isOf : MethodName := ⟨RX9, "isOf", "(II)Z"⟩
abbrev cX9_as : ByteArray := prog_11_method_74_code
def yX9_as : MethodName := ⟨RX9, "as", "(II)I"⟩
abbrev cX9_begin : ByteArray := prog_11_method_75_code
def yX9_begin : MethodName := ⟨RX9, "begin", "(I)V"⟩
abbrev cX9_lentSize : ByteArray := prog_11_method_76_code
def yX9_lentSize : MethodName := ⟨RX9, "lentSize", "(I)I"⟩
abbrev cX9_doorSize : ByteArray := prog_11_method_77_code
def yX9_doorSize : MethodName := ⟨RX9, "doorSize", "(I)I"⟩
abbrev cX9_wallSize : ByteArray := prog_11_method_78_code
def yX9_wallSize : MethodName := ⟨RX9, "wallSize", "(I)I"⟩
abbrev cX9_sizeOf : ByteArray := prog_11_method_79_code
def yX9_sizeOf : MethodName := ⟨RX9, "sizeOf", "(I)I"⟩
abbrev cX9_lentMark : ByteArray := prog_11_method_80_code
def yX9_lentMark : MethodName := ⟨RX9, "lentMark", "(I)I"⟩
abbrev cX9_doorMark : ByteArray := prog_11_method_81_code
def yX9_doorMark : MethodName := ⟨RX9, "doorMark", "(I)I"⟩
abbrev cX9_mark : ByteArray := prog_11_method_82_code
def yX9_mark : MethodName := ⟨RX9, "mark", "(I)I"⟩
abbrev cX9_wallMark : ByteArray := prog_11_method_83_code
def yX9_wallMark : MethodName := ⟨RX9, "wallMark", "(I)I"⟩
abbrev cX9_ask : ByteArray := prog_11_method_84_code
def yX9_ask : MethodName := ⟨RX9, "ask", "(II)I"⟩
abbrev cX9_trace : ByteArray := prog_11_method_85_code
def yX9_trace : MethodName := ⟨RX9, "trace", "(I)I"⟩
abbrev cX9_gotByAll : ByteArray := prog_11_method_86_code
def yX9_gotByAll : MethodName := ⟨RX9, "gotByAll", "()I"⟩
abbrev cX9_count : ByteArray := prog_11_method_87_code
def yX9_count : MethodName := ⟨RX9, "count", "(I)I"⟩
abbrev cX9_status : ByteArray := prog_11_method_88_code
def yX9_status : MethodName := ⟨RX9, "status", "()I"⟩
def RJ6 : String := "java/lang/Integer"
def TJ6 : u_T := fun k => match k with
  | _ => ("", "", "", false)
def tyJ6 : Nat → FieldType := fun k => match k with
  | _ => .int
abbrev wsJ60 : List Cond := u_ws RJ6 TJ6 0
theorem nmJ6 : ∀ a, a < 0 → ∀ b, b < 0 → a ≠ b → (TJ6 a).2.1 ≠ (TJ6 b).2.1 := by decide +kernel
theorem tyJ6_ok : ∀ k, k < 0 → parseFieldDescriptor (TJ6 k).2.2.1 = some (tyJ6 k) := by decide +kernel
abbrev cJ6_lowestOneBit_0f7a4 : ByteArray := prog_12_method_46_code
def yJ6_lowestOneBit_0f7a4 : MethodName := ⟨RJ6, "lowestOneBit", "(I)I"⟩
abbrev cJ6_bitCount_0f7a4 : ByteArray := prog_12_method_49_code
def yJ6_bitCount_0f7a4 : MethodName := ⟨RJ6, "bitCount", "(I)I"⟩
def RJ9 : String := "java/lang/Math"
def TJ9 : u_T := fun k => match k with
  | _ => ("", "", "", false)
def tyJ9 : Nat → FieldType := fun k => match k with
  | _ => .int
abbrev wsJ90 : List Cond := u_ws RJ9 TJ9 0
theorem nmJ9 : ∀ a, a < 0 → ∀ b, b < 0 → a ≠ b → (TJ9 a).2.1 ≠ (TJ9 b).2.1 := by decide +kernel
theorem tyJ9_ok : ∀ k, k < 0 → parseFieldDescriptor (TJ9 k).2.2.1 = some (tyJ9 k) := by decide +kernel
abbrev cJ9_max_7cf53 : ByteArray := prog_13_method_65_code
def yJ9_max_7cf53 : MethodName := ⟨RJ9, "max", "(II)I"⟩
abbrev cJ9_min_7cf53 : ByteArray := prog_13_method_69_code
def yJ9_min_7cf53 : MethodName := ⟨RJ9, "min", "(II)I"⟩
def RJ10 : String := "java/lang/System"
def TJ10 : u_T := fun k => match k with
  | _ => ("", "", "", false)
def tyJ10 : Nat → FieldType := fun k => match k with
  | _ => .int
abbrev wsJ100 : List Cond := u_ws RJ10 TJ10 0
theorem nmJ10 : ∀ a, a < 0 → ∀ b, b < 0 → a ≠ b → (TJ10 a).2.1 ≠ (TJ10 b).2.1 := by decide +kernel
theorem tyJ10_ok : ∀ k, k < 0 → parseFieldDescriptor (TJ10 k).2.2.1 = some (tyJ10 k) := by decide +kernel
def RL : String := "SaintHillLaw"
abbrev cL_law : ByteArray := code
def yL_law : MethodName := ⟨RL, "law", "([I)Z"⟩
end
section
theorem dX0_init_0 : decode cX0_init 0 = .ok (.aload_n 0, 1) := by decide +kernel
theorem dX0_init_1 : decode cX0_init 1 = .ok (.invokespecial 3, 3) := by decide +kernel
theorem dX0_init_4 : decode cX0_init 4 = .ok (.aload_n 0, 1) := by decide +kernel
theorem dX0_init_5 : decode cX0_init 5 = .ok (.bipush 24, 2) := by decide +kernel
theorem dX0_init_7 : decode cX0_init 7 = .ok (.newarray .int, 2) := by decide +kernel
theorem dX0_init_9 : decode cX0_init 9 = .ok (.putfield 9, 3) := by decide +kernel
theorem dX0_init_12 : decode cX0_init 12 = .ok (.aload_n 0, 1) := by decide +kernel
theorem dX0_init_13 : decode cX0_init 13 = .ok (.bipush 24, 2) := by decide +kernel
theorem dX0_init_15 : decode cX0_init 15 = .ok (.newarray .int, 2) := by decide +kernel
theorem dX0_init_17 : decode cX0_init 17 = .ok (.putfield 15, 3) := by decide +kernel
theorem dX0_init_20 : decode cX0_init 20 = .ok (.aload_n 0, 1) := by decide +kernel
theorem dX0_init_21 : decode cX0_init 21 = .ok (.bipush 24, 2) := by decide +kernel
theorem dX0_init_23 : decode cX0_init 23 = .ok (.newarray .int, 2) := by decide +kernel
theorem dX0_init_25 : decode cX0_init 25 = .ok (.putfield 18, 3) := by decide +kernel
theorem dX0_init_28 : decode cX0_init 28 = .ok (.return_, 1) := by decide +kernel
theorem dX0_keep_0 : decode cX0_keep 0 = .ok (.aload_n 0, 1) := by decide +kernel
theorem dX0_keep_1 : decode cX0_keep 1 = .ok (.getfield 21, 3) := by decide +kernel
theorem dX0_keep_4 : decode cX0_keep 4 = .ok (.bipush 24, 2) := by decide +kernel
theorem dX0_keep_6 : decode cX0_keep 6 = .ok (.if_icmp .lt 7, 3) := by decide +kernel
theorem dX0_keep_9 : decode cX0_keep 9 = .ok (.aload_n 0, 1) := by decide +kernel
theorem dX0_keep_10 : decode cX0_keep 10 = .ok (.invokevirtual 25, 3) := by decide +kernel
theorem dX0_keep_13 : decode cX0_keep 13 = .ok (.aload_n 0, 1) := by decide +kernel
theorem dX0_keep_14 : decode cX0_keep 14 = .ok (.getfield 9, 3) := by decide +kernel
theorem dX0_keep_17 : decode cX0_keep 17 = .ok (.aload_n 0, 1) := by decide +kernel
theorem dX0_keep_18 : decode cX0_keep 18 = .ok (.getfield 21, 3) := by decide +kernel
theorem dX0_keep_21 : decode cX0_keep 21 = .ok (.iload_n 1, 1) := by decide +kernel
theorem dX0_keep_22 : decode cX0_keep 22 = .ok (.iastore, 1) := by decide +kernel
theorem dX0_keep_23 : decode cX0_keep 23 = .ok (.aload_n 0, 1) := by decide +kernel
theorem dX0_keep_24 : decode cX0_keep 24 = .ok (.getfield 15, 3) := by decide +kernel
theorem dX0_keep_27 : decode cX0_keep 27 = .ok (.aload_n 0, 1) := by decide +kernel
theorem dX0_keep_28 : decode cX0_keep 28 = .ok (.getfield 21, 3) := by decide +kernel
theorem dX0_keep_31 : decode cX0_keep 31 = .ok (.iload_n 2, 1) := by decide +kernel
theorem dX0_keep_32 : decode cX0_keep 32 = .ok (.iastore, 1) := by decide +kernel
theorem dX0_keep_33 : decode cX0_keep 33 = .ok (.aload_n 0, 1) := by decide +kernel
theorem dX0_keep_34 : decode cX0_keep 34 = .ok (.getfield 18, 3) := by decide +kernel
theorem dX0_keep_37 : decode cX0_keep 37 = .ok (.aload_n 0, 1) := by decide +kernel
theorem dX0_keep_38 : decode cX0_keep 38 = .ok (.getfield 21, 3) := by decide +kernel
theorem dX0_keep_41 : decode cX0_keep 41 = .ok (.iload_n 3, 1) := by decide +kernel
theorem dX0_keep_42 : decode cX0_keep 42 = .ok (.iastore, 1) := by decide +kernel
theorem dX0_keep_43 : decode cX0_keep 43 = .ok (.aload_n 0, 1) := by decide +kernel
theorem dX0_keep_44 : decode cX0_keep 44 = .ok (.dup, 1) := by decide +kernel
theorem dX0_keep_45 : decode cX0_keep 45 = .ok (.getfield 21, 3) := by decide +kernel
theorem dX0_keep_48 : decode cX0_keep 48 = .ok (.iconst 1, 1) := by decide +kernel
theorem dX0_keep_49 : decode cX0_keep 49 = .ok (.iadd, 1) := by decide +kernel
theorem dX0_keep_50 : decode cX0_keep 50 = .ok (.putfield 21, 3) := by decide +kernel
theorem dX0_keep_53 : decode cX0_keep 53 = .ok (.return_, 1) := by decide +kernel
theorem dX0_forgetOldest_0 : decode cX0_forgetOldest 0 = .ok (.aload_n 0, 1) := by decide +kernel
theorem dX0_forgetOldest_1 : decode cX0_forgetOldest 1 = .ok (.bipush 23, 2) := by decide +kernel
theorem dX0_forgetOldest_3 : decode cX0_forgetOldest 3 = .ok (.putfield 21, 3) := by decide +kernel
theorem dX0_forgetOldest_6 : decode cX0_forgetOldest 6 = .ok (.aload_n 0, 1) := by decide +kernel
theorem dX0_forgetOldest_7 : decode cX0_forgetOldest 7 = .ok (.getfield 9, 3) := by decide +kernel
theorem dX0_forgetOldest_10 : decode cX0_forgetOldest 10 = .ok (.iconst 1, 1) := by decide +kernel
theorem dX0_forgetOldest_11 : decode cX0_forgetOldest 11 = .ok (.aload_n 0, 1) := by decide +kernel
theorem dX0_forgetOldest_12 : decode cX0_forgetOldest 12 = .ok (.getfield 9, 3) := by decide +kernel
theorem dX0_forgetOldest_15 : decode cX0_forgetOldest 15 = .ok (.iconst 0, 1) := by decide +kernel
theorem dX0_forgetOldest_16 : decode cX0_forgetOldest 16 = .ok (.aload_n 0, 1) := by decide +kernel
theorem dX0_forgetOldest_17 : decode cX0_forgetOldest 17 = .ok (.getfield 21, 3) := by decide +kernel
theorem dX0_forgetOldest_20 : decode cX0_forgetOldest 20 = .ok (.invokestatic 28, 3) := by decide +kernel
theorem dX0_forgetOldest_23 : decode cX0_forgetOldest 23 = .ok (.aload_n 0, 1) := by decide +kernel
theorem dX0_forgetOldest_24 : decode cX0_forgetOldest 24 = .ok (.getfield 15, 3) := by decide +kernel
theorem dX0_forgetOldest_27 : decode cX0_forgetOldest 27 = .ok (.iconst 1, 1) := by decide +kernel
theorem dX0_forgetOldest_28 : decode cX0_forgetOldest 28 = .ok (.aload_n 0, 1) := by decide +kernel
theorem dX0_forgetOldest_29 : decode cX0_forgetOldest 29 = .ok (.getfield 15, 3) := by decide +kernel
theorem dX0_forgetOldest_32 : decode cX0_forgetOldest 32 = .ok (.iconst 0, 1) := by decide +kernel
theorem dX0_forgetOldest_33 : decode cX0_forgetOldest 33 = .ok (.aload_n 0, 1) := by decide +kernel
theorem dX0_forgetOldest_34 : decode cX0_forgetOldest 34 = .ok (.getfield 21, 3) := by decide +kernel
theorem dX0_forgetOldest_37 : decode cX0_forgetOldest 37 = .ok (.invokestatic 28, 3) := by decide +kernel
theorem dX0_forgetOldest_40 : decode cX0_forgetOldest 40 = .ok (.aload_n 0, 1) := by decide +kernel
theorem dX0_forgetOldest_41 : decode cX0_forgetOldest 41 = .ok (.getfield 18, 3) := by decide +kernel
theorem dX0_forgetOldest_44 : decode cX0_forgetOldest 44 = .ok (.iconst 1, 1) := by decide +kernel
theorem dX0_forgetOldest_45 : decode cX0_forgetOldest 45 = .ok (.aload_n 0, 1) := by decide +kernel
theorem dX0_forgetOldest_46 : decode cX0_forgetOldest 46 = .ok (.getfield 18, 3) := by decide +kernel
theorem dX0_forgetOldest_49 : decode cX0_forgetOldest 49 = .ok (.iconst 0, 1) := by decide +kernel
theorem dX0_forgetOldest_50 : decode cX0_forgetOldest 50 = .ok (.aload_n 0, 1) := by decide +kernel
theorem dX0_forgetOldest_51 : decode cX0_forgetOldest 51 = .ok (.getfield 21, 3) := by decide +kernel
theorem dX0_forgetOldest_54 : decode cX0_forgetOldest 54 = .ok (.invokestatic 28, 3) := by decide +kernel
theorem dX0_forgetOldest_57 : decode cX0_forgetOldest 57 = .ok (.return_, 1) := by decide +kernel
theorem dX0_takeBackLatest_0 : decode cX0_takeBackLatest 0 = .ok (.aload_n 0, 1) := by decide +kernel
theorem dX0_takeBackLatest_1 : decode cX0_takeBackLatest 1 = .ok (.getfield 21, 3) := by decide +kernel
theorem dX0_takeBackLatest_4 : decode cX0_takeBackLatest 4 = .ok (.iconst 1, 1) := by decide +kernel
theorem dX0_takeBackLatest_5 : decode cX0_takeBackLatest 5 = .ok (.if_icmp .ge 4, 3) := by decide +kernel
theorem dX0_takeBackLatest_8 : decode cX0_takeBackLatest 8 = .ok (.return_, 1) := by decide +kernel
theorem dX0_takeBackLatest_9 : decode cX0_takeBackLatest 9 = .ok (.aload_n 0, 1) := by decide +kernel
theorem dX0_takeBackLatest_10 : decode cX0_takeBackLatest 10 = .ok (.dup, 1) := by decide +kernel
theorem dX0_takeBackLatest_11 : decode cX0_takeBackLatest 11 = .ok (.getfield 21, 3) := by decide +kernel
theorem dX0_takeBackLatest_14 : decode cX0_takeBackLatest 14 = .ok (.iconst 1, 1) := by decide +kernel
theorem dX0_takeBackLatest_15 : decode cX0_takeBackLatest 15 = .ok (.isub, 1) := by decide +kernel
theorem dX0_takeBackLatest_16 : decode cX0_takeBackLatest 16 = .ok (.putfield 21, 3) := by decide +kernel
theorem dX0_takeBackLatest_19 : decode cX0_takeBackLatest 19 = .ok (.aload_n 0, 1) := by decide +kernel
theorem dX0_takeBackLatest_20 : decode cX0_takeBackLatest 20 = .ok (.getfield 15, 3) := by decide +kernel
theorem dX0_takeBackLatest_23 : decode cX0_takeBackLatest 23 = .ok (.aload_n 0, 1) := by decide +kernel
theorem dX0_takeBackLatest_24 : decode cX0_takeBackLatest 24 = .ok (.getfield 21, 3) := by decide +kernel
theorem dX0_takeBackLatest_27 : decode cX0_takeBackLatest 27 = .ok (.iaload, 1) := by decide +kernel
theorem dX0_takeBackLatest_28 : decode cX0_takeBackLatest 28 = .ok (.istore_n 2, 1) := by decide +kernel
theorem dX0_takeBackLatest_29 : decode cX0_takeBackLatest 29 = .ok (.iload_n 2, 1) := by decide +kernel
theorem dX0_takeBackLatest_30 : decode cX0_takeBackLatest 30 = .ok (.iconst 0, 1) := by decide +kernel
theorem dX0_takeBackLatest_31 : decode cX0_takeBackLatest 31 = .ok (.aload_n 1, 1) := by decide +kernel
theorem dX0_takeBackLatest_32 : decode cX0_takeBackLatest 32 = .ok (.getfield 34, 3) := by decide +kernel
theorem dX0_takeBackLatest_35 : decode cX0_takeBackLatest 35 = .ok (.iconst 1, 1) := by decide +kernel
theorem dX0_takeBackLatest_36 : decode cX0_takeBackLatest 36 = .ok (.isub, 1) := by decide +kernel
theorem dX0_takeBackLatest_37 : decode cX0_takeBackLatest 37 = .ok (.invokestatic 39, 3) := by decide +kernel
theorem dX0_takeBackLatest_40 : decode cX0_takeBackLatest 40 = .ok (.istore_n 3, 1) := by decide +kernel
theorem dX0_takeBackLatest_41 : decode cX0_takeBackLatest 41 = .ok (.aload_n 0, 1) := by decide +kernel
theorem dX0_takeBackLatest_42 : decode cX0_takeBackLatest 42 = .ok (.getfield 9, 3) := by decide +kernel
theorem dX0_takeBackLatest_45 : decode cX0_takeBackLatest 45 = .ok (.aload_n 0, 1) := by decide +kernel
theorem dX0_takeBackLatest_46 : decode cX0_takeBackLatest 46 = .ok (.getfield 21, 3) := by decide +kernel
theorem dX0_takeBackLatest_49 : decode cX0_takeBackLatest 49 = .ok (.iaload, 1) := by decide +kernel
theorem dX0_takeBackLatest_50 : decode cX0_takeBackLatest 50 = .ok (.ifCond .ne 35, 3) := by decide +kernel
theorem dX0_takeBackLatest_53 : decode cX0_takeBackLatest 53 = .ok (.aload_n 1, 1) := by decide +kernel
theorem dX0_takeBackLatest_54 : decode cX0_takeBackLatest 54 = .ok (.dup, 1) := by decide +kernel
theorem dX0_takeBackLatest_55 : decode cX0_takeBackLatest 55 = .ok (.getfield 43, 3) := by decide +kernel
theorem dX0_takeBackLatest_58 : decode cX0_takeBackLatest 58 = .ok (.iconst 1, 1) := by decide +kernel
theorem dX0_takeBackLatest_59 : decode cX0_takeBackLatest 59 = .ok (.isub, 1) := by decide +kernel
theorem dX0_takeBackLatest_60 : decode cX0_takeBackLatest 60 = .ok (.putfield 43, 3) := by decide +kernel
theorem dX0_takeBackLatest_63 : decode cX0_takeBackLatest 63 = .ok (.iload_n 3, 1) := by decide +kernel
theorem dX0_takeBackLatest_64 : decode cX0_takeBackLatest 64 = .ok (.ifCond .eq 119, 3) := by decide +kernel
theorem dX0_takeBackLatest_67 : decode cX0_takeBackLatest 67 = .ok (.aload_n 1, 1) := by decide +kernel
theorem dX0_takeBackLatest_68 : decode cX0_takeBackLatest 68 = .ok (.getfield 46, 3) := by decide +kernel
theorem dX0_takeBackLatest_71 : decode cX0_takeBackLatest 71 = .ok (.iload_n 2, 1) := by decide +kernel
theorem dX0_takeBackLatest_72 : decode cX0_takeBackLatest 72 = .ok (.aaload, 1) := by decide +kernel
theorem dX0_takeBackLatest_73 : decode cX0_takeBackLatest 73 = .ok (.dup, 1) := by decide +kernel
theorem dX0_takeBackLatest_74 : decode cX0_takeBackLatest 74 = .ok (.getfield 49, 3) := by decide +kernel
theorem dX0_takeBackLatest_77 : decode cX0_takeBackLatest 77 = .ok (.iconst 1, 1) := by decide +kernel
theorem dX0_takeBackLatest_78 : decode cX0_takeBackLatest 78 = .ok (.isub, 1) := by decide +kernel
theorem dX0_takeBackLatest_79 : decode cX0_takeBackLatest 79 = .ok (.putfield 49, 3) := by decide +kernel
theorem dX0_takeBackLatest_82 : decode cX0_takeBackLatest 82 = .ok (.goto 101, 3) := by decide +kernel
theorem dX0_takeBackLatest_85 : decode cX0_takeBackLatest 85 = .ok (.aload_n 0, 1) := by decide +kernel
theorem dX0_takeBackLatest_86 : decode cX0_takeBackLatest 86 = .ok (.getfield 9, 3) := by decide +kernel
theorem dX0_takeBackLatest_89 : decode cX0_takeBackLatest 89 = .ok (.aload_n 0, 1) := by decide +kernel
theorem dX0_takeBackLatest_90 : decode cX0_takeBackLatest 90 = .ok (.getfield 21, 3) := by decide +kernel
theorem dX0_takeBackLatest_93 : decode cX0_takeBackLatest 93 = .ok (.iaload, 1) := by decide +kernel
theorem dX0_takeBackLatest_94 : decode cX0_takeBackLatest 94 = .ok (.iconst 3, 1) := by decide +kernel
theorem dX0_takeBackLatest_95 : decode cX0_takeBackLatest 95 = .ok (.if_icmp .ne 19, 3) := by decide +kernel
theorem dX0_takeBackLatest_98 : decode cX0_takeBackLatest 98 = .ok (.aload_n 1, 1) := by decide +kernel
theorem dX0_takeBackLatest_99 : decode cX0_takeBackLatest 99 = .ok (.aload_n 0, 1) := by decide +kernel
theorem dX0_takeBackLatest_100 : decode cX0_takeBackLatest 100 = .ok (.getfield 18, 3) := by decide +kernel
theorem dX0_takeBackLatest_103 : decode cX0_takeBackLatest 103 = .ok (.aload_n 0, 1) := by decide +kernel
theorem dX0_takeBackLatest_104 : decode cX0_takeBackLatest 104 = .ok (.getfield 21, 3) := by decide +kernel
theorem dX0_takeBackLatest_107 : decode cX0_takeBackLatest 107 = .ok (.iaload, 1) := by decide +kernel
theorem dX0_takeBackLatest_108 : decode cX0_takeBackLatest 108 = .ok (.putfield 54, 3) := by decide +kernel
theorem dX0_takeBackLatest_111 : decode cX0_takeBackLatest 111 = .ok (.goto 72, 3) := by decide +kernel
theorem dX0_takeBackLatest_114 : decode cX0_takeBackLatest 114 = .ok (.aload_n 0, 1) := by decide +kernel
theorem dX0_takeBackLatest_115 : decode cX0_takeBackLatest 115 = .ok (.getfield 9, 3) := by decide +kernel
theorem dX0_takeBackLatest_118 : decode cX0_takeBackLatest 118 = .ok (.aload_n 0, 1) := by decide +kernel
theorem dX0_takeBackLatest_119 : decode cX0_takeBackLatest 119 = .ok (.getfield 21, 3) := by decide +kernel
theorem dX0_takeBackLatest_122 : decode cX0_takeBackLatest 122 = .ok (.iaload, 1) := by decide +kernel
theorem dX0_takeBackLatest_123 : decode cX0_takeBackLatest 123 = .ok (.iconst 1, 1) := by decide +kernel
theorem dX0_takeBackLatest_124 : decode cX0_takeBackLatest 124 = .ok (.if_icmp .ne 22, 3) := by decide +kernel
theorem dX0_takeBackLatest_127 : decode cX0_takeBackLatest 127 = .ok (.iload_n 3, 1) := by decide +kernel
theorem dX0_takeBackLatest_128 : decode cX0_takeBackLatest 128 = .ok (.ifCond .eq 18, 3) := by decide +kernel
theorem dX0_takeBackLatest_131 : decode cX0_takeBackLatest 131 = .ok (.aload_n 1, 1) := by decide +kernel
theorem dX0_takeBackLatest_132 : decode cX0_takeBackLatest 132 = .ok (.dup, 1) := by decide +kernel
theorem dX0_takeBackLatest_133 : decode cX0_takeBackLatest 133 = .ok (.getfield 57, 3) := by decide +kernel
theorem dX0_takeBackLatest_136 : decode cX0_takeBackLatest 136 = .ok (.iconst 1, 1) := by decide +kernel
theorem dX0_takeBackLatest_137 : decode cX0_takeBackLatest 137 = .ok (.iload_n 2, 1) := by decide +kernel
theorem dX0_takeBackLatest_138 : decode cX0_takeBackLatest 138 = .ok (.ishl, 1) := by decide +kernel
theorem dX0_takeBackLatest_139 : decode cX0_takeBackLatest 139 = .ok (.ixor, 1) := by decide +kernel
theorem dX0_takeBackLatest_140 : decode cX0_takeBackLatest 140 = .ok (.putfield 57, 3) := by decide +kernel
theorem dX0_takeBackLatest_143 : decode cX0_takeBackLatest 143 = .ok (.goto 40, 3) := by decide +kernel
theorem dX0_takeBackLatest_146 : decode cX0_takeBackLatest 146 = .ok (.iload_n 3, 1) := by decide +kernel
theorem dX0_takeBackLatest_147 : decode cX0_takeBackLatest 147 = .ok (.ifCond .eq 36, 3) := by decide +kernel
theorem dX0_takeBackLatest_150 : decode cX0_takeBackLatest 150 = .ok (.aload_n 1, 1) := by decide +kernel
theorem dX0_takeBackLatest_151 : decode cX0_takeBackLatest 151 = .ok (.getfield 46, 3) := by decide +kernel
theorem dX0_takeBackLatest_154 : decode cX0_takeBackLatest 154 = .ok (.iload_n 2, 1) := by decide +kernel
theorem dX0_takeBackLatest_155 : decode cX0_takeBackLatest 155 = .ok (.aaload, 1) := by decide +kernel
theorem dX0_takeBackLatest_156 : decode cX0_takeBackLatest 156 = .ok (.aload_n 0, 1) := by decide +kernel
theorem dX0_takeBackLatest_157 : decode cX0_takeBackLatest 157 = .ok (.getfield 18, 3) := by decide +kernel
theorem dX0_takeBackLatest_160 : decode cX0_takeBackLatest 160 = .ok (.aload_n 0, 1) := by decide +kernel
theorem dX0_takeBackLatest_161 : decode cX0_takeBackLatest 161 = .ok (.getfield 21, 3) := by decide +kernel
theorem dX0_takeBackLatest_164 : decode cX0_takeBackLatest 164 = .ok (.iaload, 1) := by decide +kernel
theorem dX0_takeBackLatest_165 : decode cX0_takeBackLatest 165 = .ok (.bipush 10, 2) := by decide +kernel
theorem dX0_takeBackLatest_167 : decode cX0_takeBackLatest 167 = .ok (.idiv, 1) := by decide +kernel
theorem dX0_takeBackLatest_168 : decode cX0_takeBackLatest 168 = .ok (.aload_n 0, 1) := by decide +kernel
theorem dX0_takeBackLatest_169 : decode cX0_takeBackLatest 169 = .ok (.getfield 18, 3) := by decide +kernel
theorem dX0_takeBackLatest_172 : decode cX0_takeBackLatest 172 = .ok (.aload_n 0, 1) := by decide +kernel
theorem dX0_takeBackLatest_173 : decode cX0_takeBackLatest 173 = .ok (.getfield 21, 3) := by decide +kernel
theorem dX0_takeBackLatest_176 : decode cX0_takeBackLatest 176 = .ok (.iaload, 1) := by decide +kernel
theorem dX0_takeBackLatest_177 : decode cX0_takeBackLatest 177 = .ok (.bipush 10, 2) := by decide +kernel
theorem dX0_takeBackLatest_179 : decode cX0_takeBackLatest 179 = .ok (.irem, 1) := by decide +kernel
theorem dX0_takeBackLatest_180 : decode cX0_takeBackLatest 180 = .ok (.invokevirtual 60, 3) := by decide +kernel
theorem dX0_takeBackLatest_183 : decode cX0_takeBackLatest 183 = .ok (.return_, 1) := by decide +kernel
theorem dX1_init_0 : decode cX1_init 0 = .ok (.aload_n 0, 1) := by decide +kernel
theorem dX1_init_1 : decode cX1_init 1 = .ok (.invokespecial 3, 3) := by decide +kernel
theorem dX1_init_4 : decode cX1_init 4 = .ok (.aload_n 0, 1) := by decide +kernel
theorem dX1_init_5 : decode cX1_init 5 = .ok (.bipush 6, 2) := by decide +kernel
theorem dX1_init_7 : decode cX1_init 7 = .ok (.anewarray 9, 3) := by decide +kernel
theorem dX1_init_10 : decode cX1_init 10 = .ok (.putfield 11, 3) := by decide +kernel
theorem dX1_init_13 : decode cX1_init 13 = .ok (.aload_n 0, 1) := by decide +kernel
theorem dX1_init_14 : decode cX1_init 14 = .ok (.new 17, 3) := by decide +kernel
theorem dX1_init_17 : decode cX1_init 17 = .ok (.dup, 1) := by decide +kernel
theorem dX1_init_18 : decode cX1_init 18 = .ok (.invokespecial 19, 3) := by decide +kernel
theorem dX1_init_21 : decode cX1_init 21 = .ok (.putfield 20, 3) := by decide +kernel
theorem dX1_init_24 : decode cX1_init 24 = .ok (.iconst 0, 1) := by decide +kernel
theorem dX1_init_25 : decode cX1_init 25 = .ok (.istore_n 1, 1) := by decide +kernel
theorem dX1_init_26 : decode cX1_init 26 = .ok (.iload_n 1, 1) := by decide +kernel
theorem dX1_init_27 : decode cX1_init 27 = .ok (.bipush 6, 2) := by decide +kernel
theorem dX1_init_29 : decode cX1_init 29 = .ok (.if_icmp .ge 22, 3) := by decide +kernel
theorem dX1_init_32 : decode cX1_init 32 = .ok (.aload_n 0, 1) := by decide +kernel
theorem dX1_init_33 : decode cX1_init 33 = .ok (.getfield 11, 3) := by decide +kernel
theorem dX1_init_36 : decode cX1_init 36 = .ok (.iload_n 1, 1) := by decide +kernel
theorem dX1_init_37 : decode cX1_init 37 = .ok (.new 9, 3) := by decide +kernel
theorem dX1_init_40 : decode cX1_init 40 = .ok (.dup, 1) := by decide +kernel
theorem dX1_init_41 : decode cX1_init 41 = .ok (.invokespecial 24, 3) := by decide +kernel
theorem dX1_init_44 : decode cX1_init 44 = .ok (.aastore, 1) := by decide +kernel
theorem dX1_init_45 : decode cX1_init 45 = .ok (.iinc 1 1, 3) := by decide +kernel
theorem dX1_init_48 : decode cX1_init 48 = .ok (.goto (-22), 3) := by decide +kernel
theorem dX1_init_51 : decode cX1_init 51 = .ok (.return_, 1) := by decide +kernel
theorem dX1_become_0 : decode cX1_become 0 = .ok (.aload_n 0, 1) := by decide +kernel
theorem dX1_become_1 : decode cX1_become 1 = .ok (.aload_n 1, 1) := by decide +kernel
theorem dX1_become_2 : decode cX1_become 2 = .ok (.getfield 25, 3) := by decide +kernel
theorem dX1_become_5 : decode cX1_become 5 = .ok (.putfield 25, 3) := by decide +kernel
theorem dX1_become_8 : decode cX1_become 8 = .ok (.aload_n 0, 1) := by decide +kernel
theorem dX1_become_9 : decode cX1_become 9 = .ok (.aload_n 1, 1) := by decide +kernel
theorem dX1_become_10 : decode cX1_become 10 = .ok (.getfield 29, 3) := by decide +kernel
theorem dX1_become_13 : decode cX1_become 13 = .ok (.putfield 29, 3) := by decide +kernel
theorem dX1_become_16 : decode cX1_become 16 = .ok (.aload_n 0, 1) := by decide +kernel
theorem dX1_become_17 : decode cX1_become 17 = .ok (.aload_n 1, 1) := by decide +kernel
theorem dX1_become_18 : decode cX1_become 18 = .ok (.getfield 33, 3) := by decide +kernel
theorem dX1_become_21 : decode cX1_become 21 = .ok (.putfield 33, 3) := by decide +kernel
theorem dX1_become_24 : decode cX1_become 24 = .ok (.aload_n 0, 1) := by decide +kernel
theorem dX1_become_25 : decode cX1_become 25 = .ok (.aload_n 1, 1) := by decide +kernel
theorem dX1_become_26 : decode cX1_become 26 = .ok (.getfield 36, 3) := by decide +kernel
theorem dX1_become_29 : decode cX1_become 29 = .ok (.putfield 36, 3) := by decide +kernel
theorem dX1_become_32 : decode cX1_become 32 = .ok (.aload_n 0, 1) := by decide +kernel
theorem dX1_become_33 : decode cX1_become 33 = .ok (.aload_n 1, 1) := by decide +kernel
theorem dX1_become_34 : decode cX1_become 34 = .ok (.getfield 39, 3) := by decide +kernel
theorem dX1_become_37 : decode cX1_become 37 = .ok (.putfield 39, 3) := by decide +kernel
theorem dX1_become_40 : decode cX1_become 40 = .ok (.aload_n 0, 1) := by decide +kernel
theorem dX1_become_41 : decode cX1_become 41 = .ok (.aload_n 1, 1) := by decide +kernel
theorem dX1_become_42 : decode cX1_become 42 = .ok (.getfield 42, 3) := by decide +kernel
theorem dX1_become_45 : decode cX1_become 45 = .ok (.putfield 42, 3) := by decide +kernel
theorem dX1_become_48 : decode cX1_become 48 = .ok (.aload_n 0, 1) := by decide +kernel
theorem dX1_become_49 : decode cX1_become 49 = .ok (.aload_n 1, 1) := by decide +kernel
theorem dX1_become_50 : decode cX1_become 50 = .ok (.getfield 45, 3) := by decide +kernel
theorem dX1_become_53 : decode cX1_become 53 = .ok (.putfield 45, 3) := by decide +kernel
theorem dX1_become_56 : decode cX1_become 56 = .ok (.aload_n 0, 1) := by decide +kernel
theorem dX1_become_57 : decode cX1_become 57 = .ok (.aload_n 1, 1) := by decide +kernel
theorem dX1_become_58 : decode cX1_become 58 = .ok (.getfield 48, 3) := by decide +kernel
theorem dX1_become_61 : decode cX1_become 61 = .ok (.putfield 48, 3) := by decide +kernel
theorem dX1_become_64 : decode cX1_become 64 = .ok (.aload_n 0, 1) := by decide +kernel
theorem dX1_become_65 : decode cX1_become 65 = .ok (.aload_n 1, 1) := by decide +kernel
theorem dX1_become_66 : decode cX1_become 66 = .ok (.getfield 51, 3) := by decide +kernel
theorem dX1_become_69 : decode cX1_become 69 = .ok (.putfield 51, 3) := by decide +kernel
theorem dX1_become_72 : decode cX1_become 72 = .ok (.aload_n 0, 1) := by decide +kernel
theorem dX1_become_73 : decode cX1_become 73 = .ok (.aload_n 1, 1) := by decide +kernel
theorem dX1_become_74 : decode cX1_become 74 = .ok (.getfield 54, 3) := by decide +kernel
theorem dX1_become_77 : decode cX1_become 77 = .ok (.putfield 54, 3) := by decide +kernel
theorem dX1_become_80 : decode cX1_become 80 = .ok (.iconst 0, 1) := by decide +kernel
theorem dX1_become_81 : decode cX1_become 81 = .ok (.istore_n 2, 1) := by decide +kernel
theorem dX1_become_82 : decode cX1_become 82 = .ok (.iload_n 2, 1) := by decide +kernel
theorem dX1_become_83 : decode cX1_become 83 = .ok (.bipush 6, 2) := by decide +kernel
theorem dX1_become_85 : decode cX1_become 85 = .ok (.if_icmp .ge 24, 3) := by decide +kernel
theorem dX1_become_88 : decode cX1_become 88 = .ok (.aload_n 0, 1) := by decide +kernel
theorem dX1_become_89 : decode cX1_become 89 = .ok (.getfield 11, 3) := by decide +kernel
theorem dX1_become_92 : decode cX1_become 92 = .ok (.iload_n 2, 1) := by decide +kernel
theorem dX1_become_93 : decode cX1_become 93 = .ok (.aaload, 1) := by decide +kernel
theorem dX1_become_94 : decode cX1_become 94 = .ok (.aload_n 1, 1) := by decide +kernel
theorem dX1_become_95 : decode cX1_become 95 = .ok (.getfield 11, 3) := by decide +kernel
theorem dX1_become_98 : decode cX1_become 98 = .ok (.iload_n 2, 1) := by decide +kernel
theorem dX1_become_99 : decode cX1_become 99 = .ok (.aaload, 1) := by decide +kernel
theorem dX1_become_100 : decode cX1_become 100 = .ok (.invokevirtual 57, 3) := by decide +kernel
theorem dX1_become_103 : decode cX1_become 103 = .ok (.iinc 2 1, 3) := by decide +kernel
theorem dX1_become_106 : decode cX1_become 106 = .ok (.goto (-24), 3) := by decide +kernel
theorem dX1_become_109 : decode cX1_become 109 = .ok (.return_, 1) := by decide +kernel
theorem dX1_clear_0 : decode cX1_clear 0 = .ok (.aload_n 0, 1) := by decide +kernel
theorem dX1_clear_1 : decode cX1_clear 1 = .ok (.iconst 0, 1) := by decide +kernel
theorem dX1_clear_2 : decode cX1_clear 2 = .ok (.putfield 25, 3) := by decide +kernel
theorem dX1_clear_5 : decode cX1_clear 5 = .ok (.aload_n 0, 1) := by decide +kernel
theorem dX1_clear_6 : decode cX1_clear 6 = .ok (.iconst 0, 1) := by decide +kernel
theorem dX1_clear_7 : decode cX1_clear 7 = .ok (.putfield 48, 3) := by decide +kernel
theorem dX1_clear_10 : decode cX1_clear 10 = .ok (.aload_n 0, 1) := by decide +kernel
theorem dX1_clear_11 : decode cX1_clear 11 = .ok (.iconst 0, 1) := by decide +kernel
theorem dX1_clear_12 : decode cX1_clear 12 = .ok (.putfield 51, 3) := by decide +kernel
theorem dX1_clear_15 : decode cX1_clear 15 = .ok (.aload_n 0, 1) := by decide +kernel
theorem dX1_clear_16 : decode cX1_clear 16 = .ok (.iconst 0, 1) := by decide +kernel
theorem dX1_clear_17 : decode cX1_clear 17 = .ok (.putfield 54, 3) := by decide +kernel
theorem dX1_clear_20 : decode cX1_clear 20 = .ok (.return_, 1) := by decide +kernel
theorem dX1_putLaw_0 : decode cX1_putLaw 0 = .ok (.iload_n 1, 1) := by decide +kernel
theorem dX1_putLaw_1 : decode cX1_putLaw 1 = .ok (.tableswitch 75 0 4 #[35, 43, 51, 59, 67], 35) := by decide +kernel
theorem dX1_putLaw_36 : decode cX1_putLaw 36 = .ok (.aload_n 0, 1) := by decide +kernel
theorem dX1_putLaw_37 : decode cX1_putLaw 37 = .ok (.iload_n 2, 1) := by decide +kernel
theorem dX1_putLaw_38 : decode cX1_putLaw 38 = .ok (.putfield 29, 3) := by decide +kernel
theorem dX1_putLaw_41 : decode cX1_putLaw 41 = .ok (.goto 40, 3) := by decide +kernel
theorem dX1_putLaw_44 : decode cX1_putLaw 44 = .ok (.aload_n 0, 1) := by decide +kernel
theorem dX1_putLaw_45 : decode cX1_putLaw 45 = .ok (.iload_n 2, 1) := by decide +kernel
theorem dX1_putLaw_46 : decode cX1_putLaw 46 = .ok (.putfield 33, 3) := by decide +kernel
theorem dX1_putLaw_49 : decode cX1_putLaw 49 = .ok (.goto 32, 3) := by decide +kernel
theorem dX1_putLaw_52 : decode cX1_putLaw 52 = .ok (.aload_n 0, 1) := by decide +kernel
theorem dX1_putLaw_53 : decode cX1_putLaw 53 = .ok (.iload_n 2, 1) := by decide +kernel
theorem dX1_putLaw_54 : decode cX1_putLaw 54 = .ok (.putfield 36, 3) := by decide +kernel
theorem dX1_putLaw_57 : decode cX1_putLaw 57 = .ok (.goto 24, 3) := by decide +kernel
theorem dX1_putLaw_60 : decode cX1_putLaw 60 = .ok (.aload_n 0, 1) := by decide +kernel
theorem dX1_putLaw_61 : decode cX1_putLaw 61 = .ok (.iload_n 2, 1) := by decide +kernel
theorem dX1_putLaw_62 : decode cX1_putLaw 62 = .ok (.putfield 39, 3) := by decide +kernel
theorem dX1_putLaw_65 : decode cX1_putLaw 65 = .ok (.goto 16, 3) := by decide +kernel
theorem dX1_putLaw_68 : decode cX1_putLaw 68 = .ok (.aload_n 0, 1) := by decide +kernel
theorem dX1_putLaw_69 : decode cX1_putLaw 69 = .ok (.iload_n 2, 1) := by decide +kernel
theorem dX1_putLaw_70 : decode cX1_putLaw 70 = .ok (.putfield 42, 3) := by decide +kernel
theorem dX1_putLaw_73 : decode cX1_putLaw 73 = .ok (.goto 8, 3) := by decide +kernel
theorem dX1_putLaw_76 : decode cX1_putLaw 76 = .ok (.aload_n 0, 1) := by decide +kernel
theorem dX1_putLaw_77 : decode cX1_putLaw 77 = .ok (.iload_n 2, 1) := by decide +kernel
theorem dX1_putLaw_78 : decode cX1_putLaw 78 = .ok (.putfield 45, 3) := by decide +kernel
theorem dX1_putLaw_81 : decode cX1_putLaw 81 = .ok (.return_, 1) := by decide +kernel
theorem dX1_addHouse_0 : decode cX1_addHouse 0 = .ok (.aload_n 0, 1) := by decide +kernel
theorem dX1_addHouse_1 : decode cX1_addHouse 1 = .ok (.getfield 51, 3) := by decide +kernel
theorem dX1_addHouse_4 : decode cX1_addHouse 4 = .ok (.bipush 6, 2) := by decide +kernel
theorem dX1_addHouse_6 : decode cX1_addHouse 6 = .ok (.if_icmp .lt 4, 3) := by decide +kernel
theorem dX1_addHouse_9 : decode cX1_addHouse 9 = .ok (.return_, 1) := by decide +kernel
theorem dX1_addHouse_10 : decode cX1_addHouse 10 = .ok (.aload_n 0, 1) := by decide +kernel
theorem dX1_addHouse_11 : decode cX1_addHouse 11 = .ok (.getfield 11, 3) := by decide +kernel
theorem dX1_addHouse_14 : decode cX1_addHouse 14 = .ok (.aload_n 0, 1) := by decide +kernel
theorem dX1_addHouse_15 : decode cX1_addHouse 15 = .ok (.getfield 51, 3) := by decide +kernel
theorem dX1_addHouse_18 : decode cX1_addHouse 18 = .ok (.aaload, 1) := by decide +kernel
theorem dX1_addHouse_19 : decode cX1_addHouse 19 = .ok (.astore 5, 2) := by decide +kernel
theorem dX1_addHouse_21 : decode cX1_addHouse 21 = .ok (.aload 5, 2) := by decide +kernel
theorem dX1_addHouse_23 : decode cX1_addHouse 23 = .ok (.iload_n 1, 1) := by decide +kernel
theorem dX1_addHouse_24 : decode cX1_addHouse 24 = .ok (.putfield 61, 3) := by decide +kernel
theorem dX1_addHouse_27 : decode cX1_addHouse 27 = .ok (.aload 5, 2) := by decide +kernel
theorem dX1_addHouse_29 : decode cX1_addHouse 29 = .ok (.iload_n 2, 1) := by decide +kernel
theorem dX1_addHouse_30 : decode cX1_addHouse 30 = .ok (.iload_n 3, 1) := by decide +kernel
theorem dX1_addHouse_31 : decode cX1_addHouse 31 = .ok (.invokevirtual 64, 3) := by decide +kernel
theorem dX1_addHouse_34 : decode cX1_addHouse 34 = .ok (.aload 5, 2) := by decide +kernel
theorem dX1_addHouse_36 : decode cX1_addHouse 36 = .ok (.iload 4, 2) := by decide +kernel
theorem dX1_addHouse_38 : decode cX1_addHouse 38 = .ok (.putfield 68, 3) := by decide +kernel
theorem dX1_addHouse_41 : decode cX1_addHouse 41 = .ok (.aload 5, 2) := by decide +kernel
theorem dX1_addHouse_43 : decode cX1_addHouse 43 = .ok (.iconst 0, 1) := by decide +kernel
theorem dX1_addHouse_44 : decode cX1_addHouse 44 = .ok (.putfield 71, 3) := by decide +kernel
theorem dX1_addHouse_47 : decode cX1_addHouse 47 = .ok (.aload_n 0, 1) := by decide +kernel
theorem dX1_addHouse_48 : decode cX1_addHouse 48 = .ok (.dup, 1) := by decide +kernel
theorem dX1_addHouse_49 : decode cX1_addHouse 49 = .ok (.getfield 54, 3) := by decide +kernel
theorem dX1_addHouse_52 : decode cX1_addHouse 52 = .ok (.iconst 1, 1) := by decide +kernel
theorem dX1_addHouse_53 : decode cX1_addHouse 53 = .ok (.aload_n 0, 1) := by decide +kernel
theorem dX1_addHouse_54 : decode cX1_addHouse 54 = .ok (.getfield 51, 3) := by decide +kernel
theorem dX1_addHouse_57 : decode cX1_addHouse 57 = .ok (.ishl, 1) := by decide +kernel
theorem dX1_addHouse_58 : decode cX1_addHouse 58 = .ok (.ior, 1) := by decide +kernel
theorem dX1_addHouse_59 : decode cX1_addHouse 59 = .ok (.putfield 54, 3) := by decide +kernel
theorem dX1_addHouse_62 : decode cX1_addHouse 62 = .ok (.aload_n 0, 1) := by decide +kernel
theorem dX1_addHouse_63 : decode cX1_addHouse 63 = .ok (.dup, 1) := by decide +kernel
theorem dX1_addHouse_64 : decode cX1_addHouse 64 = .ok (.getfield 51, 3) := by decide +kernel
theorem dX1_addHouse_67 : decode cX1_addHouse 67 = .ok (.iconst 1, 1) := by decide +kernel
theorem dX1_addHouse_68 : decode cX1_addHouse 68 = .ok (.iadd, 1) := by decide +kernel
theorem dX1_addHouse_69 : decode cX1_addHouse 69 = .ok (.putfield 51, 3) := by decide +kernel
theorem dX1_addHouse_72 : decode cX1_addHouse 72 = .ok (.return_, 1) := by decide +kernel
theorem dX1_allHouses_0 : decode cX1_allHouses 0 = .ok (.iconst 1, 1) := by decide +kernel
theorem dX1_allHouses_1 : decode cX1_allHouses 1 = .ok (.aload_n 0, 1) := by decide +kernel
theorem dX1_allHouses_2 : decode cX1_allHouses 2 = .ok (.getfield 51, 3) := by decide +kernel
theorem dX1_allHouses_5 : decode cX1_allHouses 5 = .ok (.ishl, 1) := by decide +kernel
theorem dX1_allHouses_6 : decode cX1_allHouses 6 = .ok (.iconst 1, 1) := by decide +kernel
theorem dX1_allHouses_7 : decode cX1_allHouses 7 = .ok (.isub, 1) := by decide +kernel
theorem dX1_allHouses_8 : decode cX1_allHouses 8 = .ok (.ireturn, 1) := by decide +kernel
theorem dX1_openness_0 : decode cX1_openness 0 = .ok (.aload_n 0, 1) := by decide +kernel
theorem dX1_openness_1 : decode cX1_openness 1 = .ok (.getfield 54, 3) := by decide +kernel
theorem dX1_openness_4 : decode cX1_openness 4 = .ok (.iload_n 1, 1) := by decide +kernel
theorem dX1_openness_5 : decode cX1_openness 5 = .ok (.ishr, 1) := by decide +kernel
theorem dX1_openness_6 : decode cX1_openness 6 = .ok (.iconst 1, 1) := by decide +kernel
theorem dX1_openness_7 : decode cX1_openness 7 = .ok (.iand, 1) := by decide +kernel
theorem dX1_openness_8 : decode cX1_openness 8 = .ok (.ireturn, 1) := by decide +kernel
theorem dX1_standing_0 : decode cX1_standing 0 = .ok (.iconst 0, 1) := by decide +kernel
theorem dX1_standing_1 : decode cX1_standing 1 = .ok (.istore_n 3, 1) := by decide +kernel
theorem dX1_standing_2 : decode cX1_standing 2 = .ok (.iload_n 3, 1) := by decide +kernel
theorem dX1_standing_3 : decode cX1_standing 3 = .ok (.aload_n 0, 1) := by decide +kernel
theorem dX1_standing_4 : decode cX1_standing 4 = .ok (.getfield 51, 3) := by decide +kernel
theorem dX1_standing_7 : decode cX1_standing 7 = .ok (.if_icmp .ge 37, 3) := by decide +kernel
theorem dX1_standing_10 : decode cX1_standing 10 = .ok (.aload_n 0, 1) := by decide +kernel
theorem dX1_standing_11 : decode cX1_standing 11 = .ok (.getfield 11, 3) := by decide +kernel
theorem dX1_standing_14 : decode cX1_standing 14 = .ok (.iload_n 3, 1) := by decide +kernel
theorem dX1_standing_15 : decode cX1_standing 15 = .ok (.aaload, 1) := by decide +kernel
theorem dX1_standing_16 : decode cX1_standing 16 = .ok (.getfield 74, 3) := by decide +kernel
theorem dX1_standing_19 : decode cX1_standing 19 = .ok (.iload_n 1, 1) := by decide +kernel
theorem dX1_standing_20 : decode cX1_standing 20 = .ok (.if_icmp .ne 18, 3) := by decide +kernel
theorem dX1_standing_23 : decode cX1_standing 23 = .ok (.aload_n 0, 1) := by decide +kernel
theorem dX1_standing_24 : decode cX1_standing 24 = .ok (.getfield 11, 3) := by decide +kernel
theorem dX1_standing_27 : decode cX1_standing 27 = .ok (.iload_n 3, 1) := by decide +kernel
theorem dX1_standing_28 : decode cX1_standing 28 = .ok (.aaload, 1) := by decide +kernel
theorem dX1_standing_29 : decode cX1_standing 29 = .ok (.getfield 77, 3) := by decide +kernel
theorem dX1_standing_32 : decode cX1_standing 32 = .ok (.iload_n 2, 1) := by decide +kernel
theorem dX1_standing_33 : decode cX1_standing 33 = .ok (.if_icmp .ne 5, 3) := by decide +kernel
theorem dX1_standing_36 : decode cX1_standing 36 = .ok (.iload_n 3, 1) := by decide +kernel
theorem dX1_standing_37 : decode cX1_standing 37 = .ok (.ireturn, 1) := by decide +kernel
theorem dX1_standing_38 : decode cX1_standing 38 = .ok (.iinc 3 1, 3) := by decide +kernel
theorem dX1_standing_41 : decode cX1_standing 41 = .ok (.goto (-39), 3) := by decide +kernel
theorem dX1_standing_44 : decode cX1_standing 44 = .ok (.iconst (-1), 1) := by decide +kernel
theorem dX1_standing_45 : decode cX1_standing 45 = .ok (.ireturn, 1) := by decide +kernel
theorem dX1_topLine_0 : decode cX1_topLine 0 = .ok (.aload_n 0, 1) := by decide +kernel
theorem dX1_topLine_1 : decode cX1_topLine 1 = .ok (.getfield 33, 3) := by decide +kernel
theorem dX1_topLine_4 : decode cX1_topLine 4 = .ok (.aload_n 0, 1) := by decide +kernel
theorem dX1_topLine_5 : decode cX1_topLine 5 = .ok (.getfield 36, 3) := by decide +kernel
theorem dX1_topLine_8 : decode cX1_topLine 8 = .ok (.aload_n 0, 1) := by decide +kernel
theorem dX1_topLine_9 : decode cX1_topLine 9 = .ok (.getfield 48, 3) := by decide +kernel
theorem dX1_topLine_12 : decode cX1_topLine 12 = .ok (.iload_n 1, 1) := by decide +kernel
theorem dX1_topLine_13 : decode cX1_topLine 13 = .ok (.iadd, 1) := by decide +kernel
theorem dX1_topLine_14 : decode cX1_topLine 14 = .ok (.imul, 1) := by decide +kernel
theorem dX1_topLine_15 : decode cX1_topLine 15 = .ok (.iadd, 1) := by decide +kernel
theorem dX1_topLine_16 : decode cX1_topLine 16 = .ok (.bipush 7, 2) := by decide +kernel
theorem dX1_topLine_18 : decode cX1_topLine 18 = .ok (.irem, 1) := by decide +kernel
theorem dX1_topLine_19 : decode cX1_topLine 19 = .ok (.ireturn, 1) := by decide +kernel
theorem dX1_restIn_0 : decode cX1_restIn 0 = .ok (.aload_n 0, 1) := by decide +kernel
theorem dX1_restIn_1 : decode cX1_restIn 1 = .ok (.aload_n 0, 1) := by decide +kernel
theorem dX1_restIn_2 : decode cX1_restIn 2 = .ok (.iload_n 1, 1) := by decide +kernel
theorem dX1_restIn_3 : decode cX1_restIn 3 = .ok (.invokevirtual 80, 3) := by decide +kernel
theorem dX1_restIn_6 : decode cX1_restIn 6 = .ok (.invokevirtual 84, 3) := by decide +kernel
theorem dX1_restIn_9 : decode cX1_restIn 9 = .ok (.ireturn, 1) := by decide +kernel
theorem dX1_letGo_0 : decode cX1_letGo 0 = .ok (.aload_n 0, 1) := by decide +kernel
theorem dX1_letGo_1 : decode cX1_letGo 1 = .ok (.getfield 20, 3) := by decide +kernel
theorem dX1_letGo_4 : decode cX1_letGo 4 = .ok (.iload_n 1, 1) := by decide +kernel
theorem dX1_letGo_5 : decode cX1_letGo 5 = .ok (.aload_n 0, 1) := by decide +kernel
theorem dX1_letGo_6 : decode cX1_letGo 6 = .ok (.getfield 39, 3) := by decide +kernel
theorem dX1_letGo_9 : decode cX1_letGo 9 = .ok (.invokevirtual 87, 3) := by decide +kernel
theorem dX1_letGo_12 : decode cX1_letGo 12 = .ok (.iconst 1, 1) := by decide +kernel
theorem dX1_letGo_13 : decode cX1_letGo 13 = .ok (.istore_n 2, 1) := by decide +kernel
theorem dX1_letGo_14 : decode cX1_letGo 14 = .ok (.iload_n 2, 1) := by decide +kernel
theorem dX1_letGo_15 : decode cX1_letGo 15 = .ok (.aload_n 0, 1) := by decide +kernel
theorem dX1_letGo_16 : decode cX1_letGo 16 = .ok (.getfield 29, 3) := by decide +kernel
theorem dX1_letGo_19 : decode cX1_letGo 19 = .ok (.if_icmp .gt 79, 3) := by decide +kernel
theorem dX1_letGo_22 : decode cX1_letGo 22 = .ok (.aload_n 0, 1) := by decide +kernel
theorem dX1_letGo_23 : decode cX1_letGo 23 = .ok (.getfield 20, 3) := by decide +kernel
theorem dX1_letGo_26 : decode cX1_letGo 26 = .ok (.getfield 90, 3) := by decide +kernel
theorem dX1_letGo_29 : decode cX1_letGo 29 = .ok (.ifCond .ne 69, 3) := by decide +kernel
theorem dX1_letGo_32 : decode cX1_letGo 32 = .ok (.aload_n 0, 1) := by decide +kernel
theorem dX1_letGo_33 : decode cX1_letGo 33 = .ok (.getfield 45, 3) := by decide +kernel
theorem dX1_letGo_36 : decode cX1_letGo 36 = .ok (.ifCond .le 25, 3) := by decide +kernel
theorem dX1_letGo_39 : decode cX1_letGo 39 = .ok (.iload_n 2, 1) := by decide +kernel
theorem dX1_letGo_40 : decode cX1_letGo 40 = .ok (.aload_n 0, 1) := by decide +kernel
theorem dX1_letGo_41 : decode cX1_letGo 41 = .ok (.getfield 45, 3) := by decide +kernel
theorem dX1_letGo_44 : decode cX1_letGo 44 = .ok (.irem, 1) := by decide +kernel
theorem dX1_letGo_45 : decode cX1_letGo 45 = .ok (.ifCond .ne 16, 3) := by decide +kernel
theorem dX1_letGo_48 : decode cX1_letGo 48 = .ok (.aload_n 0, 1) := by decide +kernel
theorem dX1_letGo_49 : decode cX1_letGo 49 = .ok (.getfield 20, 3) := by decide +kernel
theorem dX1_letGo_52 : decode cX1_letGo 52 = .ok (.aload_n 0, 1) := by decide +kernel
theorem dX1_letGo_53 : decode cX1_letGo 53 = .ok (.getfield 42, 3) := by decide +kernel
theorem dX1_letGo_56 : decode cX1_letGo 56 = .ok (.iconst 1, 1) := by decide +kernel
theorem dX1_letGo_57 : decode cX1_letGo 57 = .ok (.isub, 1) := by decide +kernel
theorem dX1_letGo_58 : decode cX1_letGo 58 = .ok (.invokevirtual 93, 3) := by decide +kernel
theorem dX1_letGo_61 : decode cX1_letGo 61 = .ok (.aload_n 0, 1) := by decide +kernel
theorem dX1_letGo_62 : decode cX1_letGo 62 = .ok (.iload_n 2, 1) := by decide +kernel
theorem dX1_letGo_63 : decode cX1_letGo 63 = .ok (.aload_n 0, 1) := by decide +kernel
theorem dX1_letGo_64 : decode cX1_letGo 64 = .ok (.getfield 20, 3) := by decide +kernel
theorem dX1_letGo_67 : decode cX1_letGo 67 = .ok (.getfield 97, 3) := by decide +kernel
theorem dX1_letGo_70 : decode cX1_letGo 70 = .ok (.invokevirtual 98, 3) := by decide +kernel
theorem dX1_letGo_73 : decode cX1_letGo 73 = .ok (.istore_n 3, 1) := by decide +kernel
theorem dX1_letGo_74 : decode cX1_letGo 74 = .ok (.iload_n 3, 1) := by decide +kernel
theorem dX1_letGo_75 : decode cX1_letGo 75 = .ok (.ifCond .lt 9, 3) := by decide +kernel
theorem dX1_letGo_78 : decode cX1_letGo 78 = .ok (.aload_n 0, 1) := by decide +kernel
theorem dX1_letGo_79 : decode cX1_letGo 79 = .ok (.iload_n 3, 1) := by decide +kernel
theorem dX1_letGo_80 : decode cX1_letGo 80 = .ok (.iload_n 2, 1) := by decide +kernel
theorem dX1_letGo_81 : decode cX1_letGo 81 = .ok (.invokevirtual 102, 3) := by decide +kernel
theorem dX1_letGo_84 : decode cX1_letGo 84 = .ok (.aload_n 0, 1) := by decide +kernel
theorem dX1_letGo_85 : decode cX1_letGo 85 = .ok (.getfield 20, 3) := by decide +kernel
theorem dX1_letGo_88 : decode cX1_letGo 88 = .ok (.iload_n 2, 1) := by decide +kernel
theorem dX1_letGo_89 : decode cX1_letGo 89 = .ok (.invokevirtual 105, 3) := by decide +kernel
theorem dX1_letGo_92 : decode cX1_letGo 92 = .ok (.iinc 2 1, 3) := by decide +kernel
theorem dX1_letGo_95 : decode cX1_letGo 95 = .ok (.goto (-81), 3) := by decide +kernel
theorem dX1_letGo_98 : decode cX1_letGo 98 = .ok (.aload_n 0, 1) := by decide +kernel
theorem dX1_letGo_99 : decode cX1_letGo 99 = .ok (.getfield 20, 3) := by decide +kernel
theorem dX1_letGo_102 : decode cX1_letGo 102 = .ok (.getfield 108, 3) := by decide +kernel
theorem dX1_letGo_105 : decode cX1_letGo 105 = .ok (.ireturn, 1) := by decide +kernel
theorem dX1_meet_0 : decode cX1_meet 0 = .ok (.aload_n 0, 1) := by decide +kernel
theorem dX1_meet_1 : decode cX1_meet 1 = .ok (.getfield 11, 3) := by decide +kernel
theorem dX1_meet_4 : decode cX1_meet 4 = .ok (.iload_n 1, 1) := by decide +kernel
theorem dX1_meet_5 : decode cX1_meet 5 = .ok (.aaload, 1) := by decide +kernel
theorem dX1_meet_6 : decode cX1_meet 6 = .ok (.getfield 61, 3) := by decide +kernel
theorem dX1_meet_9 : decode cX1_meet 9 = .ok (.istore_n 3, 1) := by decide +kernel
theorem dX1_meet_10 : decode cX1_meet 10 = .ok (.aload_n 0, 1) := by decide +kernel
theorem dX1_meet_11 : decode cX1_meet 11 = .ok (.iload_n 1, 1) := by decide +kernel
theorem dX1_meet_12 : decode cX1_meet 12 = .ok (.invokevirtual 111, 3) := by decide +kernel
theorem dX1_meet_15 : decode cX1_meet 15 = .ok (.ifCond .ne 7, 3) := by decide +kernel
theorem dX1_meet_18 : decode cX1_meet 18 = .ok (.iconst 1, 1) := by decide +kernel
theorem dX1_meet_19 : decode cX1_meet 19 = .ok (.goto 4, 3) := by decide +kernel
theorem dX1_meet_22 : decode cX1_meet 22 = .ok (.iconst 0, 1) := by decide +kernel
theorem dX1_meet_23 : decode cX1_meet 23 = .ok (.istore 4, 2) := by decide +kernel
theorem dX1_meet_25 : decode cX1_meet 25 = .ok (.iload_n 3, 1) := by decide +kernel
theorem dX1_meet_26 : decode cX1_meet 26 = .ok (.iconst 4, 1) := by decide +kernel
theorem dX1_meet_27 : decode cX1_meet 27 = .ok (.if_icmp .eq 8, 3) := by decide +kernel
theorem dX1_meet_30 : decode cX1_meet 30 = .ok (.iload_n 3, 1) := by decide +kernel
theorem dX1_meet_31 : decode cX1_meet 31 = .ok (.iconst 5, 1) := by decide +kernel
theorem dX1_meet_32 : decode cX1_meet 32 = .ok (.if_icmp .ne 36, 3) := by decide +kernel
theorem dX1_meet_35 : decode cX1_meet 35 = .ok (.aload_n 0, 1) := by decide +kernel
theorem dX1_meet_36 : decode cX1_meet 36 = .ok (.getfield 20, 3) := by decide +kernel
theorem dX1_meet_39 : decode cX1_meet 39 = .ok (.dup, 1) := by decide +kernel
theorem dX1_meet_40 : decode cX1_meet 40 = .ok (.getfield 114, 3) := by decide +kernel
theorem dX1_meet_43 : decode cX1_meet 43 = .ok (.iconst 1, 1) := by decide +kernel
theorem dX1_meet_44 : decode cX1_meet 44 = .ok (.isub, 1) := by decide +kernel
theorem dX1_meet_45 : decode cX1_meet 45 = .ok (.putfield 114, 3) := by decide +kernel
theorem dX1_meet_48 : decode cX1_meet 48 = .ok (.aload_n 0, 1) := by decide +kernel
theorem dX1_meet_49 : decode cX1_meet 49 = .ok (.getfield 20, 3) := by decide +kernel
theorem dX1_meet_52 : decode cX1_meet 52 = .ok (.iload_n 3, 1) := by decide +kernel
theorem dX1_meet_53 : decode cX1_meet 53 = .ok (.iconst 4, 1) := by decide +kernel
theorem dX1_meet_54 : decode cX1_meet 54 = .ok (.if_icmp .ne 7, 3) := by decide +kernel
theorem dX1_meet_57 : decode cX1_meet 57 = .ok (.iconst (-1), 1) := by decide +kernel
theorem dX1_meet_58 : decode cX1_meet 58 = .ok (.goto 4, 3) := by decide +kernel
theorem dX1_meet_61 : decode cX1_meet 61 = .ok (.iconst 1, 1) := by decide +kernel
theorem dX1_meet_62 : decode cX1_meet 62 = .ok (.invokevirtual 93, 3) := by decide +kernel
theorem dX1_meet_65 : decode cX1_meet 65 = .ok (.goto 81, 3) := by decide +kernel
theorem dX1_meet_68 : decode cX1_meet 68 = .ok (.iload_n 3, 1) := by decide +kernel
theorem dX1_meet_69 : decode cX1_meet 69 = .ok (.iconst 3, 1) := by decide +kernel
theorem dX1_meet_70 : decode cX1_meet 70 = .ok (.if_icmp .eq 13, 3) := by decide +kernel
theorem dX1_meet_73 : decode cX1_meet 73 = .ok (.iload_n 3, 1) := by decide +kernel
theorem dX1_meet_74 : decode cX1_meet 74 = .ok (.iconst 1, 1) := by decide +kernel
theorem dX1_meet_75 : decode cX1_meet 75 = .ok (.if_icmp .ne 19, 3) := by decide +kernel
theorem dX1_meet_78 : decode cX1_meet 78 = .ok (.iload 4, 2) := by decide +kernel
theorem dX1_meet_80 : decode cX1_meet 80 = .ok (.ifCond .ne 14, 3) := by decide +kernel
theorem dX1_meet_83 : decode cX1_meet 83 = .ok (.aload_n 0, 1) := by decide +kernel
theorem dX1_meet_84 : decode cX1_meet 84 = .ok (.getfield 20, 3) := by decide +kernel
theorem dX1_meet_87 : decode cX1_meet 87 = .ok (.iload_n 1, 1) := by decide +kernel
theorem dX1_meet_88 : decode cX1_meet 88 = .ok (.invokevirtual 115, 3) := by decide +kernel
theorem dX1_meet_91 : decode cX1_meet 91 = .ok (.goto 55, 3) := by decide +kernel
theorem dX1_meet_94 : decode cX1_meet 94 = .ok (.iload 4, 2) := by decide +kernel
theorem dX1_meet_96 : decode cX1_meet 96 = .ok (.ifCond .eq 37, 3) := by decide +kernel
theorem dX1_meet_99 : decode cX1_meet 99 = .ok (.aload_n 0, 1) := by decide +kernel
theorem dX1_meet_100 : decode cX1_meet 100 = .ok (.getfield 20, 3) := by decide +kernel
theorem dX1_meet_103 : decode cX1_meet 103 = .ok (.dup, 1) := by decide +kernel
theorem dX1_meet_104 : decode cX1_meet 104 = .ok (.getfield 114, 3) := by decide +kernel
theorem dX1_meet_107 : decode cX1_meet 107 = .ok (.iconst 2, 1) := by decide +kernel
theorem dX1_meet_108 : decode cX1_meet 108 = .ok (.isub, 1) := by decide +kernel
theorem dX1_meet_109 : decode cX1_meet 109 = .ok (.putfield 114, 3) := by decide +kernel
theorem dX1_meet_112 : decode cX1_meet 112 = .ok (.aload_n 0, 1) := by decide +kernel
theorem dX1_meet_113 : decode cX1_meet 113 = .ok (.getfield 20, 3) := by decide +kernel
theorem dX1_meet_116 : decode cX1_meet 116 = .ok (.iload_n 2, 1) := by decide +kernel
theorem dX1_meet_117 : decode cX1_meet 117 = .ok (.iconst 2, 1) := by decide +kernel
theorem dX1_meet_118 : decode cX1_meet 118 = .ok (.irem, 1) := by decide +kernel
theorem dX1_meet_119 : decode cX1_meet 119 = .ok (.ifCond .ne 7, 3) := by decide +kernel
theorem dX1_meet_122 : decode cX1_meet 122 = .ok (.iconst 1, 1) := by decide +kernel
theorem dX1_meet_123 : decode cX1_meet 123 = .ok (.goto 4, 3) := by decide +kernel
theorem dX1_meet_126 : decode cX1_meet 126 = .ok (.iconst (-1), 1) := by decide +kernel
theorem dX1_meet_127 : decode cX1_meet 127 = .ok (.invokevirtual 93, 3) := by decide +kernel
theorem dX1_meet_130 : decode cX1_meet 130 = .ok (.goto 16, 3) := by decide +kernel
theorem dX1_meet_133 : decode cX1_meet 133 = .ok (.aload_n 0, 1) := by decide +kernel
theorem dX1_meet_134 : decode cX1_meet 134 = .ok (.getfield 20, 3) := by decide +kernel
theorem dX1_meet_137 : decode cX1_meet 137 = .ok (.dup, 1) := by decide +kernel
theorem dX1_meet_138 : decode cX1_meet 138 = .ok (.getfield 114, 3) := by decide +kernel
theorem dX1_meet_141 : decode cX1_meet 141 = .ok (.iconst 1, 1) := by decide +kernel
theorem dX1_meet_142 : decode cX1_meet 142 = .ok (.isub, 1) := by decide +kernel
theorem dX1_meet_143 : decode cX1_meet 143 = .ok (.putfield 114, 3) := by decide +kernel
theorem dX1_meet_146 : decode cX1_meet 146 = .ok (.aload_n 0, 1) := by decide +kernel
theorem dX1_meet_147 : decode cX1_meet 147 = .ok (.getfield 20, 3) := by decide +kernel
theorem dX1_meet_150 : decode cX1_meet 150 = .ok (.getfield 114, 3) := by decide +kernel
theorem dX1_meet_153 : decode cX1_meet 153 = .ok (.ifCond .gt 11, 3) := by decide +kernel
theorem dX1_meet_156 : decode cX1_meet 156 = .ok (.aload_n 0, 1) := by decide +kernel
theorem dX1_meet_157 : decode cX1_meet 157 = .ok (.getfield 20, 3) := by decide +kernel
theorem dX1_meet_160 : decode cX1_meet 160 = .ok (.iload_n 1, 1) := by decide +kernel
theorem dX1_meet_161 : decode cX1_meet 161 = .ok (.invokevirtual 115, 3) := by decide +kernel
theorem dX1_meet_164 : decode cX1_meet 164 = .ok (.return_, 1) := by decide +kernel
theorem dX1_firstAt_0 : decode cX1_firstAt 0 = .ok (.iconst 0, 1) := by decide +kernel
theorem dX1_firstAt_1 : decode cX1_firstAt 1 = .ok (.istore_n 2, 1) := by decide +kernel
theorem dX1_firstAt_2 : decode cX1_firstAt 2 = .ok (.iload_n 2, 1) := by decide +kernel
theorem dX1_firstAt_3 : decode cX1_firstAt 3 = .ok (.bipush 7, 2) := by decide +kernel
theorem dX1_firstAt_5 : decode cX1_firstAt 5 = .ok (.if_icmp .ge 20, 3) := by decide +kernel
theorem dX1_firstAt_8 : decode cX1_firstAt 8 = .ok (.aload_n 0, 1) := by decide +kernel
theorem dX1_firstAt_9 : decode cX1_firstAt 9 = .ok (.iload_n 2, 1) := by decide +kernel
theorem dX1_firstAt_10 : decode cX1_firstAt 10 = .ok (.invokevirtual 118, 3) := by decide +kernel
theorem dX1_firstAt_13 : decode cX1_firstAt 13 = .ok (.iload_n 1, 1) := by decide +kernel
theorem dX1_firstAt_14 : decode cX1_firstAt 14 = .ok (.if_icmp .ne 5, 3) := by decide +kernel
theorem dX1_firstAt_17 : decode cX1_firstAt 17 = .ok (.iload_n 2, 1) := by decide +kernel
theorem dX1_firstAt_18 : decode cX1_firstAt 18 = .ok (.ireturn, 1) := by decide +kernel
theorem dX1_firstAt_19 : decode cX1_firstAt 19 = .ok (.iinc 2 1, 3) := by decide +kernel
theorem dX1_firstAt_22 : decode cX1_firstAt 22 = .ok (.goto (-20), 3) := by decide +kernel
theorem dX1_firstAt_25 : decode cX1_firstAt 25 = .ok (.iconst (-1), 1) := by decide +kernel
theorem dX1_firstAt_26 : decode cX1_firstAt 26 = .ok (.ireturn, 1) := by decide +kernel
theorem dX1_timesAt_0 : decode cX1_timesAt 0 = .ok (.iconst 0, 1) := by decide +kernel
theorem dX1_timesAt_1 : decode cX1_timesAt 1 = .ok (.istore_n 3, 1) := by decide +kernel
theorem dX1_timesAt_2 : decode cX1_timesAt 2 = .ok (.iconst 0, 1) := by decide +kernel
theorem dX1_timesAt_3 : decode cX1_timesAt 3 = .ok (.istore 4, 2) := by decide +kernel
theorem dX1_timesAt_5 : decode cX1_timesAt 5 = .ok (.iload 4, 2) := by decide +kernel
theorem dX1_timesAt_7 : decode cX1_timesAt 7 = .ok (.bipush 7, 2) := by decide +kernel
theorem dX1_timesAt_9 : decode cX1_timesAt 9 = .ok (.if_icmp .ge 39, 3) := by decide +kernel
theorem dX1_timesAt_12 : decode cX1_timesAt 12 = .ok (.iload 4, 2) := by decide +kernel
theorem dX1_timesAt_14 : decode cX1_timesAt 14 = .ok (.iload_n 2, 1) := by decide +kernel
theorem dX1_timesAt_15 : decode cX1_timesAt 15 = .ok (.if_icmp .ge 33, 3) := by decide +kernel
theorem dX1_timesAt_18 : decode cX1_timesAt 18 = .ok (.aload_n 0, 1) := by decide +kernel
theorem dX1_timesAt_19 : decode cX1_timesAt 19 = .ok (.iload 4, 2) := by decide +kernel
theorem dX1_timesAt_21 : decode cX1_timesAt 21 = .ok (.invokevirtual 118, 3) := by decide +kernel
theorem dX1_timesAt_24 : decode cX1_timesAt 24 = .ok (.iload_n 1, 1) := by decide +kernel
theorem dX1_timesAt_25 : decode cX1_timesAt 25 = .ok (.if_icmp .ne 17, 3) := by decide +kernel
theorem dX1_timesAt_28 : decode cX1_timesAt 28 = .ok (.iload_n 3, 1) := by decide +kernel
theorem dX1_timesAt_29 : decode cX1_timesAt 29 = .ok (.iload_n 2, 1) := by decide +kernel
theorem dX1_timesAt_30 : decode cX1_timesAt 30 = .ok (.iconst 1, 1) := by decide +kernel
theorem dX1_timesAt_31 : decode cX1_timesAt 31 = .ok (.isub, 1) := by decide +kernel
theorem dX1_timesAt_32 : decode cX1_timesAt 32 = .ok (.iload 4, 2) := by decide +kernel
theorem dX1_timesAt_34 : decode cX1_timesAt 34 = .ok (.isub, 1) := by decide +kernel
theorem dX1_timesAt_35 : decode cX1_timesAt 35 = .ok (.bipush 7, 2) := by decide +kernel
theorem dX1_timesAt_37 : decode cX1_timesAt 37 = .ok (.idiv, 1) := by decide +kernel
theorem dX1_timesAt_38 : decode cX1_timesAt 38 = .ok (.iconst 1, 1) := by decide +kernel
theorem dX1_timesAt_39 : decode cX1_timesAt 39 = .ok (.iadd, 1) := by decide +kernel
theorem dX1_timesAt_40 : decode cX1_timesAt 40 = .ok (.iadd, 1) := by decide +kernel
theorem dX1_timesAt_41 : decode cX1_timesAt 41 = .ok (.istore_n 3, 1) := by decide +kernel
theorem dX1_timesAt_42 : decode cX1_timesAt 42 = .ok (.iinc 4 1, 3) := by decide +kernel
theorem dX1_timesAt_45 : decode cX1_timesAt 45 = .ok (.goto (-40), 3) := by decide +kernel
theorem dX1_timesAt_48 : decode cX1_timesAt 48 = .ok (.iload_n 3, 1) := by decide +kernel
theorem dX1_timesAt_49 : decode cX1_timesAt 49 = .ok (.ireturn, 1) := by decide +kernel
theorem dX1_passYear_0 : decode cX1_passYear 0 = .ok (.aload_n 0, 1) := by decide +kernel
theorem dX1_passYear_1 : decode cX1_passYear 1 = .ok (.iconst 0, 1) := by decide +kernel
theorem dX1_passYear_2 : decode cX1_passYear 2 = .ok (.invokevirtual 118, 3) := by decide +kernel
theorem dX1_passYear_5 : decode cX1_passYear 5 = .ok (.istore_n 1, 1) := by decide +kernel
theorem dX1_passYear_6 : decode cX1_passYear 6 = .ok (.aload_n 0, 1) := by decide +kernel
theorem dX1_passYear_7 : decode cX1_passYear 7 = .ok (.dup, 1) := by decide +kernel
theorem dX1_passYear_8 : decode cX1_passYear 8 = .ok (.getfield 48, 3) := by decide +kernel
theorem dX1_passYear_11 : decode cX1_passYear 11 = .ok (.iconst 1, 1) := by decide +kernel
theorem dX1_passYear_12 : decode cX1_passYear 12 = .ok (.iadd, 1) := by decide +kernel
theorem dX1_passYear_13 : decode cX1_passYear 13 = .ok (.putfield 48, 3) := by decide +kernel
theorem dX1_passYear_16 : decode cX1_passYear 16 = .ok (.iload_n 1, 1) := by decide +kernel
theorem dX1_passYear_17 : decode cX1_passYear 17 = .ok (.ifCond .lt 18, 3) := by decide +kernel
theorem dX1_passYear_20 : decode cX1_passYear 20 = .ok (.aload_n 0, 1) := by decide +kernel
theorem dX1_passYear_21 : decode cX1_passYear 21 = .ok (.getfield 11, 3) := by decide +kernel
theorem dX1_passYear_24 : decode cX1_passYear 24 = .ok (.iload_n 1, 1) := by decide +kernel
theorem dX1_passYear_25 : decode cX1_passYear 25 = .ok (.aaload, 1) := by decide +kernel
theorem dX1_passYear_26 : decode cX1_passYear 26 = .ok (.dup, 1) := by decide +kernel
theorem dX1_passYear_27 : decode cX1_passYear 27 = .ok (.getfield 71, 3) := by decide +kernel
theorem dX1_passYear_30 : decode cX1_passYear 30 = .ok (.iconst 1, 1) := by decide +kernel
theorem dX1_passYear_31 : decode cX1_passYear 31 = .ok (.iadd, 1) := by decide +kernel
theorem dX1_passYear_32 : decode cX1_passYear 32 = .ok (.putfield 71, 3) := by decide +kernel
theorem dX1_passYear_35 : decode cX1_passYear 35 = .ok (.iload_n 1, 1) := by decide +kernel
theorem dX1_passYear_36 : decode cX1_passYear 36 = .ok (.ireturn, 1) := by decide +kernel
theorem dX1_forgetGot_0 : decode cX1_forgetGot 0 = .ok (.iconst 0, 1) := by decide +kernel
theorem dX1_forgetGot_1 : decode cX1_forgetGot 1 = .ok (.istore_n 1, 1) := by decide +kernel
theorem dX1_forgetGot_2 : decode cX1_forgetGot 2 = .ok (.iload_n 1, 1) := by decide +kernel
theorem dX1_forgetGot_3 : decode cX1_forgetGot 3 = .ok (.aload_n 0, 1) := by decide +kernel
theorem dX1_forgetGot_4 : decode cX1_forgetGot 4 = .ok (.getfield 51, 3) := by decide +kernel
theorem dX1_forgetGot_7 : decode cX1_forgetGot 7 = .ok (.if_icmp .ge 19, 3) := by decide +kernel
theorem dX1_forgetGot_10 : decode cX1_forgetGot 10 = .ok (.aload_n 0, 1) := by decide +kernel
theorem dX1_forgetGot_11 : decode cX1_forgetGot 11 = .ok (.getfield 11, 3) := by decide +kernel
theorem dX1_forgetGot_14 : decode cX1_forgetGot 14 = .ok (.iload_n 1, 1) := by decide +kernel
theorem dX1_forgetGot_15 : decode cX1_forgetGot 15 = .ok (.aaload, 1) := by decide +kernel
theorem dX1_forgetGot_16 : decode cX1_forgetGot 16 = .ok (.iconst 0, 1) := by decide +kernel
theorem dX1_forgetGot_17 : decode cX1_forgetGot 17 = .ok (.putfield 71, 3) := by decide +kernel
theorem dX1_forgetGot_20 : decode cX1_forgetGot 20 = .ok (.iinc 1 1, 3) := by decide +kernel
theorem dX1_forgetGot_23 : decode cX1_forgetGot 23 = .ok (.goto (-21), 3) := by decide +kernel
theorem dX1_forgetGot_26 : decode cX1_forgetGot 26 = .ok (.return_, 1) := by decide +kernel
theorem dX1_allGot_0 : decode cX1_allGot 0 = .ok (.iconst 0, 1) := by decide +kernel
theorem dX1_allGot_1 : decode cX1_allGot 1 = .ok (.istore_n 1, 1) := by decide +kernel
theorem dX1_allGot_2 : decode cX1_allGot 2 = .ok (.iconst 0, 1) := by decide +kernel
theorem dX1_allGot_3 : decode cX1_allGot 3 = .ok (.istore_n 2, 1) := by decide +kernel
theorem dX1_allGot_4 : decode cX1_allGot 4 = .ok (.iload_n 2, 1) := by decide +kernel
theorem dX1_allGot_5 : decode cX1_allGot 5 = .ok (.aload_n 0, 1) := by decide +kernel
theorem dX1_allGot_6 : decode cX1_allGot 6 = .ok (.getfield 51, 3) := by decide +kernel
theorem dX1_allGot_9 : decode cX1_allGot 9 = .ok (.if_icmp .ge 21, 3) := by decide +kernel
theorem dX1_allGot_12 : decode cX1_allGot 12 = .ok (.iload_n 1, 1) := by decide +kernel
theorem dX1_allGot_13 : decode cX1_allGot 13 = .ok (.aload_n 0, 1) := by decide +kernel
theorem dX1_allGot_14 : decode cX1_allGot 14 = .ok (.getfield 11, 3) := by decide +kernel
theorem dX1_allGot_17 : decode cX1_allGot 17 = .ok (.iload_n 2, 1) := by decide +kernel
theorem dX1_allGot_18 : decode cX1_allGot 18 = .ok (.aaload, 1) := by decide +kernel
theorem dX1_allGot_19 : decode cX1_allGot 19 = .ok (.getfield 71, 3) := by decide +kernel
theorem dX1_allGot_22 : decode cX1_allGot 22 = .ok (.iadd, 1) := by decide +kernel
theorem dX1_allGot_23 : decode cX1_allGot 23 = .ok (.istore_n 1, 1) := by decide +kernel
theorem dX1_allGot_24 : decode cX1_allGot 24 = .ok (.iinc 2 1, 3) := by decide +kernel
theorem dX1_allGot_27 : decode cX1_allGot 27 = .ok (.goto (-23), 3) := by decide +kernel
theorem dX1_allGot_30 : decode cX1_allGot 30 = .ok (.iload_n 1, 1) := by decide +kernel
theorem dX1_allGot_31 : decode cX1_allGot 31 = .ok (.ireturn, 1) := by decide +kernel
theorem dX1_mostFavoured_0 : decode cX1_mostFavoured 0 = .ok (.iconst 0, 1) := by decide +kernel
theorem dX1_mostFavoured_1 : decode cX1_mostFavoured 1 = .ok (.istore_n 1, 1) := by decide +kernel
theorem dX1_mostFavoured_2 : decode cX1_mostFavoured 2 = .ok (.iconst (-1), 1) := by decide +kernel
theorem dX1_mostFavoured_3 : decode cX1_mostFavoured 3 = .ok (.istore_n 2, 1) := by decide +kernel
theorem dX1_mostFavoured_4 : decode cX1_mostFavoured 4 = .ok (.iconst 0, 1) := by decide +kernel
theorem dX1_mostFavoured_5 : decode cX1_mostFavoured 5 = .ok (.istore_n 3, 1) := by decide +kernel
theorem dX1_mostFavoured_6 : decode cX1_mostFavoured 6 = .ok (.iload_n 3, 1) := by decide +kernel
theorem dX1_mostFavoured_7 : decode cX1_mostFavoured 7 = .ok (.aload_n 0, 1) := by decide +kernel
theorem dX1_mostFavoured_8 : decode cX1_mostFavoured 8 = .ok (.getfield 51, 3) := by decide +kernel
theorem dX1_mostFavoured_11 : decode cX1_mostFavoured 11 = .ok (.if_icmp .ge 34, 3) := by decide +kernel
theorem dX1_mostFavoured_14 : decode cX1_mostFavoured 14 = .ok (.aload_n 0, 1) := by decide +kernel
theorem dX1_mostFavoured_15 : decode cX1_mostFavoured 15 = .ok (.getfield 11, 3) := by decide +kernel
theorem dX1_mostFavoured_18 : decode cX1_mostFavoured 18 = .ok (.iload_n 3, 1) := by decide +kernel
theorem dX1_mostFavoured_19 : decode cX1_mostFavoured 19 = .ok (.aaload, 1) := by decide +kernel
theorem dX1_mostFavoured_20 : decode cX1_mostFavoured 20 = .ok (.getfield 71, 3) := by decide +kernel
theorem dX1_mostFavoured_23 : decode cX1_mostFavoured 23 = .ok (.iload_n 1, 1) := by decide +kernel
theorem dX1_mostFavoured_24 : decode cX1_mostFavoured 24 = .ok (.if_icmp .le 15, 3) := by decide +kernel
theorem dX1_mostFavoured_27 : decode cX1_mostFavoured 27 = .ok (.aload_n 0, 1) := by decide +kernel
theorem dX1_mostFavoured_28 : decode cX1_mostFavoured 28 = .ok (.getfield 11, 3) := by decide +kernel
theorem dX1_mostFavoured_31 : decode cX1_mostFavoured 31 = .ok (.iload_n 3, 1) := by decide +kernel
theorem dX1_mostFavoured_32 : decode cX1_mostFavoured 32 = .ok (.aaload, 1) := by decide +kernel
theorem dX1_mostFavoured_33 : decode cX1_mostFavoured 33 = .ok (.getfield 71, 3) := by decide +kernel
theorem dX1_mostFavoured_36 : decode cX1_mostFavoured 36 = .ok (.istore_n 1, 1) := by decide +kernel
theorem dX1_mostFavoured_37 : decode cX1_mostFavoured 37 = .ok (.iload_n 3, 1) := by decide +kernel
theorem dX1_mostFavoured_38 : decode cX1_mostFavoured 38 = .ok (.istore_n 2, 1) := by decide +kernel
theorem dX1_mostFavoured_39 : decode cX1_mostFavoured 39 = .ok (.iinc 3 1, 3) := by decide +kernel
theorem dX1_mostFavoured_42 : decode cX1_mostFavoured 42 = .ok (.goto (-36), 3) := by decide +kernel
theorem dX1_mostFavoured_45 : decode cX1_mostFavoured 45 = .ok (.iload_n 2, 1) := by decide +kernel
theorem dX1_mostFavoured_46 : decode cX1_mostFavoured 46 = .ok (.ireturn, 1) := by decide +kernel
theorem dX2_init_0 : decode cX2_init 0 = .ok (.aload_n 0, 1) := by decide +kernel
theorem dX2_init_1 : decode cX2_init 1 = .ok (.invokespecial 1, 3) := by decide +kernel
theorem dX2_init_4 : decode cX2_init 4 = .ok (.return_, 1) := by decide +kernel
theorem dX2_become_0 : decode cX2_become 0 = .ok (.aload_n 0, 1) := by decide +kernel
theorem dX2_become_1 : decode cX2_become 1 = .ok (.aload_n 1, 1) := by decide +kernel
theorem dX2_become_2 : decode cX2_become 2 = .ok (.getfield 7, 3) := by decide +kernel
theorem dX2_become_5 : decode cX2_become 5 = .ok (.putfield 7, 3) := by decide +kernel
theorem dX2_become_8 : decode cX2_become 8 = .ok (.aload_n 0, 1) := by decide +kernel
theorem dX2_become_9 : decode cX2_become 9 = .ok (.aload_n 1, 1) := by decide +kernel
theorem dX2_become_10 : decode cX2_become 10 = .ok (.getfield 13, 3) := by decide +kernel
theorem dX2_become_13 : decode cX2_become 13 = .ok (.putfield 13, 3) := by decide +kernel
theorem dX2_become_16 : decode cX2_become 16 = .ok (.aload_n 0, 1) := by decide +kernel
theorem dX2_become_17 : decode cX2_become 17 = .ok (.aload_n 1, 1) := by decide +kernel
theorem dX2_become_18 : decode cX2_become 18 = .ok (.getfield 16, 3) := by decide +kernel
theorem dX2_become_21 : decode cX2_become 21 = .ok (.putfield 16, 3) := by decide +kernel
theorem dX2_become_24 : decode cX2_become 24 = .ok (.aload_n 0, 1) := by decide +kernel
theorem dX2_become_25 : decode cX2_become 25 = .ok (.aload_n 1, 1) := by decide +kernel
theorem dX2_become_26 : decode cX2_become 26 = .ok (.getfield 19, 3) := by decide +kernel
theorem dX2_become_29 : decode cX2_become 29 = .ok (.putfield 19, 3) := by decide +kernel
theorem dX2_become_32 : decode cX2_become 32 = .ok (.aload_n 0, 1) := by decide +kernel
theorem dX2_become_33 : decode cX2_become 33 = .ok (.aload_n 1, 1) := by decide +kernel
theorem dX2_become_34 : decode cX2_become 34 = .ok (.getfield 22, 3) := by decide +kernel
theorem dX2_become_37 : decode cX2_become 37 = .ok (.putfield 22, 3) := by decide +kernel
theorem dX2_become_40 : decode cX2_become 40 = .ok (.return_, 1) := by decide +kernel
theorem dX2_stand_0 : decode cX2_stand 0 = .ok (.aload_n 0, 1) := by decide +kernel
theorem dX2_stand_1 : decode cX2_stand 1 = .ok (.iload_n 1, 1) := by decide +kernel
theorem dX2_stand_2 : decode cX2_stand 2 = .ok (.putfield 13, 3) := by decide +kernel
theorem dX2_stand_5 : decode cX2_stand 5 = .ok (.aload_n 0, 1) := by decide +kernel
theorem dX2_stand_6 : decode cX2_stand 6 = .ok (.iload_n 2, 1) := by decide +kernel
theorem dX2_stand_7 : decode cX2_stand 7 = .ok (.putfield 16, 3) := by decide +kernel
theorem dX2_stand_10 : decode cX2_stand 10 = .ok (.return_, 1) := by decide +kernel
theorem dX2_cell_0 : decode cX2_cell 0 = .ok (.bipush 10, 2) := by decide +kernel
theorem dX2_cell_2 : decode cX2_cell 2 = .ok (.aload_n 0, 1) := by decide +kernel
theorem dX2_cell_3 : decode cX2_cell 3 = .ok (.getfield 13, 3) := by decide +kernel
theorem dX2_cell_6 : decode cX2_cell 6 = .ok (.imul, 1) := by decide +kernel
theorem dX2_cell_7 : decode cX2_cell 7 = .ok (.aload_n 0, 1) := by decide +kernel
theorem dX2_cell_8 : decode cX2_cell 8 = .ok (.getfield 16, 3) := by decide +kernel
theorem dX2_cell_11 : decode cX2_cell 11 = .ok (.iadd, 1) := by decide +kernel
theorem dX2_cell_12 : decode cX2_cell 12 = .ok (.ireturn, 1) := by decide +kernel
theorem dX3_init_0 : decode cX3_init 0 = .ok (.aload_n 0, 1) := by decide +kernel
theorem dX3_init_1 : decode cX3_init 1 = .ok (.invokespecial 3, 3) := by decide +kernel
theorem dX3_init_4 : decode cX3_init 4 = .ok (.aload_n 0, 1) := by decide +kernel
theorem dX3_init_5 : decode cX3_init 5 = .ok (.bipush 10, 2) := by decide +kernel
theorem dX3_init_7 : decode cX3_init 7 = .ok (.newarray .int, 2) := by decide +kernel
theorem dX3_init_9 : decode cX3_init 9 = .ok (.putfield 9, 3) := by decide +kernel
theorem dX3_init_12 : decode cX3_init 12 = .ok (.return_, 1) := by decide +kernel
theorem dX3_begin_0 : decode cX3_begin 0 = .ok (.aload_n 0, 1) := by decide +kernel
theorem dX3_begin_1 : decode cX3_begin 1 = .ok (.iload_n 1, 1) := by decide +kernel
theorem dX3_begin_2 : decode cX3_begin 2 = .ok (.putfield 15, 3) := by decide +kernel
theorem dX3_begin_5 : decode cX3_begin 5 = .ok (.aload_n 0, 1) := by decide +kernel
theorem dX3_begin_6 : decode cX3_begin 6 = .ok (.iload_n 2, 1) := by decide +kernel
theorem dX3_begin_7 : decode cX3_begin 7 = .ok (.putfield 19, 3) := by decide +kernel
theorem dX3_begin_10 : decode cX3_begin 10 = .ok (.aload_n 0, 1) := by decide +kernel
theorem dX3_begin_11 : decode cX3_begin 11 = .ok (.iconst (-1), 1) := by decide +kernel
theorem dX3_begin_12 : decode cX3_begin 12 = .ok (.putfield 22, 3) := by decide +kernel
theorem dX3_begin_15 : decode cX3_begin 15 = .ok (.aload_n 0, 1) := by decide +kernel
theorem dX3_begin_16 : decode cX3_begin 16 = .ok (.iconst 0, 1) := by decide +kernel
theorem dX3_begin_17 : decode cX3_begin 17 = .ok (.putfield 25, 3) := by decide +kernel
theorem dX3_begin_20 : decode cX3_begin 20 = .ok (.aload_n 0, 1) := by decide +kernel
theorem dX3_begin_21 : decode cX3_begin 21 = .ok (.iconst 0, 1) := by decide +kernel
theorem dX3_begin_22 : decode cX3_begin 22 = .ok (.invokevirtual 29, 3) := by decide +kernel
theorem dX3_begin_25 : decode cX3_begin 25 = .ok (.return_, 1) := by decide +kernel
theorem dX3_reach_0 : decode cX3_reach 0 = .ok (.aload_n 0, 1) := by decide +kernel
theorem dX3_reach_1 : decode cX3_reach 1 = .ok (.iload_n 1, 1) := by decide +kernel
theorem dX3_reach_2 : decode cX3_reach 2 = .ok (.putfield 33, 3) := by decide +kernel
theorem dX3_reach_5 : decode cX3_reach 5 = .ok (.aload_n 0, 1) := by decide +kernel
theorem dX3_reach_6 : decode cX3_reach 6 = .ok (.getfield 9, 3) := by decide +kernel
theorem dX3_reach_9 : decode cX3_reach 9 = .ok (.iload_n 1, 1) := by decide +kernel
theorem dX3_reach_10 : decode cX3_reach 10 = .ok (.aload_n 0, 1) := by decide +kernel
theorem dX3_reach_11 : decode cX3_reach 11 = .ok (.getfield 15, 3) := by decide +kernel
theorem dX3_reach_14 : decode cX3_reach 14 = .ok (.iastore, 1) := by decide +kernel
theorem dX3_reach_15 : decode cX3_reach 15 = .ok (.return_, 1) := by decide +kernel
theorem dX3_turn_0 : decode cX3_turn 0 = .ok (.aload_n 0, 1) := by decide +kernel
theorem dX3_turn_1 : decode cX3_turn 1 = .ok (.iconst 0, 1) := by decide +kernel
theorem dX3_turn_2 : decode cX3_turn 2 = .ok (.bipush 6, 2) := by decide +kernel
theorem dX3_turn_4 : decode cX3_turn 4 = .ok (.aload_n 0, 1) := by decide +kernel
theorem dX3_turn_5 : decode cX3_turn 5 = .ok (.getfield 15, 3) := by decide +kernel
theorem dX3_turn_8 : decode cX3_turn 8 = .ok (.iload_n 1, 1) := by decide +kernel
theorem dX3_turn_9 : decode cX3_turn 9 = .ok (.iadd, 1) := by decide +kernel
theorem dX3_turn_10 : decode cX3_turn 10 = .ok (.invokestatic 36, 3) := by decide +kernel
theorem dX3_turn_13 : decode cX3_turn 13 = .ok (.invokestatic 42, 3) := by decide +kernel
theorem dX3_turn_16 : decode cX3_turn 16 = .ok (.putfield 15, 3) := by decide +kernel
theorem dX3_turn_19 : decode cX3_turn 19 = .ok (.return_, 1) := by decide +kernel
theorem dX3_restAt_0 : decode cX3_restAt 0 = .ok (.aload_n 0, 1) := by decide +kernel
theorem dX3_restAt_1 : decode cX3_restAt 1 = .ok (.iload_n 1, 1) := by decide +kernel
theorem dX3_restAt_2 : decode cX3_restAt 2 = .ok (.putfield 22, 3) := by decide +kernel
theorem dX3_restAt_5 : decode cX3_restAt 5 = .ok (.aload_n 0, 1) := by decide +kernel
theorem dX3_restAt_6 : decode cX3_restAt 6 = .ok (.iconst 1, 1) := by decide +kernel
theorem dX3_restAt_7 : decode cX3_restAt 7 = .ok (.putfield 25, 3) := by decide +kernel
theorem dX3_restAt_10 : decode cX3_restAt 10 = .ok (.return_, 1) := by decide +kernel
theorem dX4_init_0 : decode cX4_init 0 = .ok (.aload_n 0, 1) := by decide +kernel
theorem dX4_init_1 : decode cX4_init 1 = .ok (.invokespecial 3, 3) := by decide +kernel
theorem dX4_init_4 : decode cX4_init 4 = .ok (.aload_n 0, 1) := by decide +kernel
theorem dX4_init_5 : decode cX4_init 5 = .ok (.bipush 40, 2) := by decide +kernel
theorem dX4_init_7 : decode cX4_init 7 = .ok (.newarray .int, 2) := by decide +kernel
theorem dX4_init_9 : decode cX4_init 9 = .ok (.putfield 9, 3) := by decide +kernel
theorem dX4_init_12 : decode cX4_init 12 = .ok (.aload_n 0, 1) := by decide +kernel
theorem dX4_init_13 : decode cX4_init 13 = .ok (.iconst 1, 1) := by decide +kernel
theorem dX4_init_14 : decode cX4_init 14 = .ok (.putfield 15, 3) := by decide +kernel
theorem dX4_init_17 : decode cX4_init 17 = .ok (.return_, 1) := by decide +kernel
theorem dX4_begin_0 : decode cX4_begin 0 = .ok (.aload_n 0, 1) := by decide +kernel
theorem dX4_begin_1 : decode cX4_begin 1 = .ok (.iconst 0, 1) := by decide +kernel
theorem dX4_begin_2 : decode cX4_begin 2 = .ok (.putfield 15, 3) := by decide +kernel
theorem dX4_begin_5 : decode cX4_begin 5 = .ok (.aload_n 0, 1) := by decide +kernel
theorem dX4_begin_6 : decode cX4_begin 6 = .ok (.iload_n 1, 1) := by decide +kernel
theorem dX4_begin_7 : decode cX4_begin 7 = .ok (.putfield 19, 3) := by decide +kernel
theorem dX4_begin_10 : decode cX4_begin 10 = .ok (.aload_n 0, 1) := by decide +kernel
theorem dX4_begin_11 : decode cX4_begin 11 = .ok (.iload_n 2, 1) := by decide +kernel
theorem dX4_begin_12 : decode cX4_begin 12 = .ok (.putfield 23, 3) := by decide +kernel
theorem dX4_begin_15 : decode cX4_begin 15 = .ok (.iconst 0, 1) := by decide +kernel
theorem dX4_begin_16 : decode cX4_begin 16 = .ok (.istore_n 3, 1) := by decide +kernel
theorem dX4_begin_17 : decode cX4_begin 17 = .ok (.iload_n 3, 1) := by decide +kernel
theorem dX4_begin_18 : decode cX4_begin 18 = .ok (.bipush 40, 2) := by decide +kernel
theorem dX4_begin_20 : decode cX4_begin 20 = .ok (.if_icmp .ge 16, 3) := by decide +kernel
theorem dX4_begin_23 : decode cX4_begin 23 = .ok (.aload_n 0, 1) := by decide +kernel
theorem dX4_begin_24 : decode cX4_begin 24 = .ok (.getfield 9, 3) := by decide +kernel
theorem dX4_begin_27 : decode cX4_begin 27 = .ok (.iload_n 3, 1) := by decide +kernel
theorem dX4_begin_28 : decode cX4_begin 28 = .ok (.iconst 0, 1) := by decide +kernel
theorem dX4_begin_29 : decode cX4_begin 29 = .ok (.iastore, 1) := by decide +kernel
theorem dX4_begin_30 : decode cX4_begin 30 = .ok (.iinc 3 1, 3) := by decide +kernel
theorem dX4_begin_33 : decode cX4_begin 33 = .ok (.goto (-16), 3) := by decide +kernel
theorem dX4_begin_36 : decode cX4_begin 36 = .ok (.return_, 1) := by decide +kernel
theorem dX4_reaches_0 : decode cX4_reaches 0 = .ok (.iload_n 1, 1) := by decide +kernel
theorem dX4_reaches_1 : decode cX4_reaches 1 = .ok (.ifCond .lt 29, 3) := by decide +kernel
theorem dX4_reaches_4 : decode cX4_reaches 4 = .ok (.iload_n 2, 1) := by decide +kernel
theorem dX4_reaches_5 : decode cX4_reaches 5 = .ok (.ifCond .lt 25, 3) := by decide +kernel
theorem dX4_reaches_8 : decode cX4_reaches 8 = .ok (.iload_n 2, 1) := by decide +kernel
theorem dX4_reaches_9 : decode cX4_reaches 9 = .ok (.aload_n 0, 1) := by decide +kernel
theorem dX4_reaches_10 : decode cX4_reaches 10 = .ok (.getfield 23, 3) := by decide +kernel
theorem dX4_reaches_13 : decode cX4_reaches 13 = .ok (.if_icmp .gt 17, 3) := by decide +kernel
theorem dX4_reaches_16 : decode cX4_reaches 16 = .ok (.iload_n 1, 1) := by decide +kernel
theorem dX4_reaches_17 : decode cX4_reaches 17 = .ok (.aload_n 0, 1) := by decide +kernel
theorem dX4_reaches_18 : decode cX4_reaches 18 = .ok (.getfield 23, 3) := by decide +kernel
theorem dX4_reaches_21 : decode cX4_reaches 21 = .ok (.iload_n 2, 1) := by decide +kernel
theorem dX4_reaches_22 : decode cX4_reaches 22 = .ok (.isub, 1) := by decide +kernel
theorem dX4_reaches_23 : decode cX4_reaches 23 = .ok (.if_icmp .gt 7, 3) := by decide +kernel
theorem dX4_reaches_26 : decode cX4_reaches 26 = .ok (.iconst 1, 1) := by decide +kernel
theorem dX4_reaches_27 : decode cX4_reaches 27 = .ok (.goto 4, 3) := by decide +kernel
theorem dX4_reaches_30 : decode cX4_reaches 30 = .ok (.iconst 0, 1) := by decide +kernel
theorem dX4_reaches_31 : decode cX4_reaches 31 = .ok (.ireturn, 1) := by decide +kernel
theorem dX4_cut_0 : decode cX4_cut 0 = .ok (.aload_n 0, 1) := by decide +kernel
theorem dX4_cut_1 : decode cX4_cut 1 = .ok (.getfield 19, 3) := by decide +kernel
theorem dX4_cut_4 : decode cX4_cut 4 = .ok (.ifCond .ne 6, 3) := by decide +kernel
theorem dX4_cut_7 : decode cX4_cut 7 = .ok (.iload_n 1, 1) := by decide +kernel
theorem dX4_cut_8 : decode cX4_cut 8 = .ok (.i2b, 1) := by decide +kernel
theorem dX4_cut_9 : decode cX4_cut 9 = .ok (.ireturn, 1) := by decide +kernel
theorem dX4_cut_10 : decode cX4_cut 10 = .ok (.aload_n 0, 1) := by decide +kernel
theorem dX4_cut_11 : decode cX4_cut 11 = .ok (.getfield 19, 3) := by decide +kernel
theorem dX4_cut_14 : decode cX4_cut 14 = .ok (.iconst 1, 1) := by decide +kernel
theorem dX4_cut_15 : decode cX4_cut 15 = .ok (.if_icmp .ne 8, 3) := by decide +kernel
theorem dX4_cut_18 : decode cX4_cut 18 = .ok (.iload_n 1, 1) := by decide +kernel
theorem dX4_cut_19 : decode cX4_cut 19 = .ok (.i2s, 1) := by decide +kernel
theorem dX4_cut_20 : decode cX4_cut 20 = .ok (.goto 4, 3) := by decide +kernel
theorem dX4_cut_23 : decode cX4_cut 23 = .ok (.iload_n 1, 1) := by decide +kernel
theorem dX4_cut_24 : decode cX4_cut 24 = .ok (.ireturn, 1) := by decide +kernel
theorem dX5_init_0 : decode cX5_init 0 = .ok (.aload_n 0, 1) := by decide +kernel
theorem dX5_init_1 : decode cX5_init 1 = .ok (.invokespecial 3, 3) := by decide +kernel
theorem dX5_init_4 : decode cX5_init 4 = .ok (.aload_n 0, 1) := by decide +kernel
theorem dX5_init_5 : decode cX5_init 5 = .ok (.new 9, 3) := by decide +kernel
theorem dX5_init_8 : decode cX5_init 8 = .ok (.dup, 1) := by decide +kernel
theorem dX5_init_9 : decode cX5_init 9 = .ok (.invokespecial 11, 3) := by decide +kernel
theorem dX5_init_12 : decode cX5_init 12 = .ok (.putfield 12, 3) := by decide +kernel
theorem dX5_init_15 : decode cX5_init 15 = .ok (.return_, 1) := by decide +kernel
theorem dX5_fewestDoors_0 : decode cX5_fewestDoors 0 = .ok (.aload_n 0, 1) := by decide +kernel
theorem dX5_fewestDoors_1 : decode cX5_fewestDoors 1 = .ok (.getfield 12, 3) := by decide +kernel
theorem dX5_fewestDoors_4 : decode cX5_fewestDoors 4 = .ok (.aload_n 1, 1) := by decide +kernel
theorem dX5_fewestDoors_5 : decode cX5_fewestDoors 5 = .ok (.invokevirtual 18, 3) := by decide +kernel
theorem dX5_fewestDoors_8 : decode cX5_fewestDoors 8 = .ok (.iconst (-1), 1) := by decide +kernel
theorem dX5_fewestDoors_9 : decode cX5_fewestDoors 9 = .ok (.istore 4, 2) := by decide +kernel
theorem dX5_fewestDoors_11 : decode cX5_fewestDoors 11 = .ok (.iconst 0, 1) := by decide +kernel
theorem dX5_fewestDoors_12 : decode cX5_fewestDoors 12 = .ok (.istore 5, 2) := by decide +kernel
theorem dX5_fewestDoors_14 : decode cX5_fewestDoors 14 = .ok (.iload 5, 2) := by decide +kernel
theorem dX5_fewestDoors_16 : decode cX5_fewestDoors 16 = .ok (.aload_n 1, 1) := by decide +kernel
theorem dX5_fewestDoors_17 : decode cX5_fewestDoors 17 = .ok (.invokevirtual 22, 3) := by decide +kernel
theorem dX5_fewestDoors_20 : decode cX5_fewestDoors 20 = .ok (.if_icmp .gt 82, 3) := by decide +kernel
theorem dX5_fewestDoors_23 : decode cX5_fewestDoors 23 = .ok (.iload 4, 2) := by decide +kernel
theorem dX5_fewestDoors_25 : decode cX5_fewestDoors 25 = .ok (.ifCond .lt 19, 3) := by decide +kernel
theorem dX5_fewestDoors_28 : decode cX5_fewestDoors 28 = .ok (.iload 5, 2) := by decide +kernel
theorem dX5_fewestDoors_30 : decode cX5_fewestDoors 30 = .ok (.invokestatic 26, 3) := by decide +kernel
theorem dX5_fewestDoors_33 : decode cX5_fewestDoors 33 = .ok (.iload 4, 2) := by decide +kernel
theorem dX5_fewestDoors_35 : decode cX5_fewestDoors 35 = .ok (.invokestatic 26, 3) := by decide +kernel
theorem dX5_fewestDoors_38 : decode cX5_fewestDoors 38 = .ok (.if_icmp .lt 6, 3) := by decide +kernel
theorem dX5_fewestDoors_41 : decode cX5_fewestDoors 41 = .ok (.goto 55, 3) := by decide +kernel
theorem dX5_fewestDoors_44 : decode cX5_fewestDoors 44 = .ok (.aload_n 0, 1) := by decide +kernel
theorem dX5_fewestDoors_45 : decode cX5_fewestDoors 45 = .ok (.getfield 12, 3) := by decide +kernel
theorem dX5_fewestDoors_48 : decode cX5_fewestDoors 48 = .ok (.aload_n 1, 1) := by decide +kernel
theorem dX5_fewestDoors_49 : decode cX5_fewestDoors 49 = .ok (.getfield 32, 3) := by decide +kernel
theorem dX5_fewestDoors_52 : decode cX5_fewestDoors 52 = .ok (.iload 5, 2) := by decide +kernel
theorem dX5_fewestDoors_54 : decode cX5_fewestDoors 54 = .ok (.ixor, 1) := by decide +kernel
theorem dX5_fewestDoors_55 : decode cX5_fewestDoors 55 = .ok (.putfield 32, 3) := by decide +kernel
theorem dX5_fewestDoors_58 : decode cX5_fewestDoors 58 = .ok (.aload_n 0, 1) := by decide +kernel
theorem dX5_fewestDoors_59 : decode cX5_fewestDoors 59 = .ok (.getfield 12, 3) := by decide +kernel
theorem dX5_fewestDoors_62 : decode cX5_fewestDoors 62 = .ok (.iload_n 2, 1) := by decide +kernel
theorem dX5_fewestDoors_63 : decode cX5_fewestDoors 63 = .ok (.invokevirtual 36, 3) := by decide +kernel
theorem dX5_fewestDoors_66 : decode cX5_fewestDoors 66 = .ok (.istore 6, 2) := by decide +kernel
theorem dX5_fewestDoors_68 : decode cX5_fewestDoors 68 = .ok (.iload 6, 2) := by decide +kernel
theorem dX5_fewestDoors_70 : decode cX5_fewestDoors 70 = .ok (.ifCond .ge 8, 3) := by decide +kernel
theorem dX5_fewestDoors_73 : decode cX5_fewestDoors 73 = .ok (.bipush 6, 2) := by decide +kernel
theorem dX5_fewestDoors_75 : decode cX5_fewestDoors 75 = .ok (.goto 5, 3) := by decide +kernel
theorem dX5_fewestDoors_78 : decode cX5_fewestDoors 78 = .ok (.iload 6, 2) := by decide +kernel
theorem dX5_fewestDoors_80 : decode cX5_fewestDoors 80 = .ok (.istore 7, 2) := by decide +kernel
theorem dX5_fewestDoors_82 : decode cX5_fewestDoors 82 = .ok (.iload_n 3, 1) := by decide +kernel
theorem dX5_fewestDoors_83 : decode cX5_fewestDoors 83 = .ok (.iload 7, 2) := by decide +kernel
theorem dX5_fewestDoors_85 : decode cX5_fewestDoors 85 = .ok (.ishr, 1) := by decide +kernel
theorem dX5_fewestDoors_86 : decode cX5_fewestDoors 86 = .ok (.iconst 1, 1) := by decide +kernel
theorem dX5_fewestDoors_87 : decode cX5_fewestDoors 87 = .ok (.iand, 1) := by decide +kernel
theorem dX5_fewestDoors_88 : decode cX5_fewestDoors 88 = .ok (.iconst 1, 1) := by decide +kernel
theorem dX5_fewestDoors_89 : decode cX5_fewestDoors 89 = .ok (.if_icmp .ne 7, 3) := by decide +kernel
theorem dX5_fewestDoors_92 : decode cX5_fewestDoors 92 = .ok (.iload 5, 2) := by decide +kernel
theorem dX5_fewestDoors_94 : decode cX5_fewestDoors 94 = .ok (.istore 4, 2) := by decide +kernel
theorem dX5_fewestDoors_96 : decode cX5_fewestDoors 96 = .ok (.iinc 5 1, 3) := by decide +kernel
theorem dX5_fewestDoors_99 : decode cX5_fewestDoors 99 = .ok (.goto (-85), 3) := by decide +kernel
theorem dX5_fewestDoors_102 : decode cX5_fewestDoors 102 = .ok (.iload 4, 2) := by decide +kernel
theorem dX5_fewestDoors_104 : decode cX5_fewestDoors 104 = .ok (.ireturn, 1) := by decide +kernel
theorem dX5_bestCell_0 : decode cX5_bestCell 0 = .ok (.aload_n 0, 1) := by decide +kernel
theorem dX5_bestCell_1 : decode cX5_bestCell 1 = .ok (.getfield 12, 3) := by decide +kernel
theorem dX5_bestCell_4 : decode cX5_bestCell 4 = .ok (.aload_n 1, 1) := by decide +kernel
theorem dX5_bestCell_5 : decode cX5_bestCell 5 = .ok (.invokevirtual 18, 3) := by decide +kernel
theorem dX5_bestCell_8 : decode cX5_bestCell 8 = .ok (.aload_n 1, 1) := by decide +kernel
theorem dX5_bestCell_9 : decode cX5_bestCell 9 = .ok (.getfield 39, 3) := by decide +kernel
theorem dX5_bestCell_12 : decode cX5_bestCell 12 = .ok (.iload_n 2, 1) := by decide +kernel
theorem dX5_bestCell_13 : decode cX5_bestCell 13 = .ok (.aaload, 1) := by decide +kernel
theorem dX5_bestCell_14 : decode cX5_bestCell 14 = .ok (.invokevirtual 43, 3) := by decide +kernel
theorem dX5_bestCell_17 : decode cX5_bestCell 17 = .ok (.istore 4, 2) := by decide +kernel
theorem dX5_bestCell_19 : decode cX5_bestCell 19 = .ok (.aload_n 0, 1) := by decide +kernel
theorem dX5_bestCell_20 : decode cX5_bestCell 20 = .ok (.iconst (-1), 1) := by decide +kernel
theorem dX5_bestCell_21 : decode cX5_bestCell 21 = .ok (.putfield 48, 3) := by decide +kernel
theorem dX5_bestCell_24 : decode cX5_bestCell 24 = .ok (.iconst 1, 1) := by decide +kernel
theorem dX5_bestCell_25 : decode cX5_bestCell 25 = .ok (.istore 5, 2) := by decide +kernel
theorem dX5_bestCell_27 : decode cX5_bestCell 27 = .ok (.iload 5, 2) := by decide +kernel
theorem dX5_bestCell_29 : decode cX5_bestCell 29 = .ok (.aload_n 1, 1) := by decide +kernel
theorem dX5_bestCell_30 : decode cX5_bestCell 30 = .ok (.getfield 51, 3) := by decide +kernel
theorem dX5_bestCell_33 : decode cX5_bestCell 33 = .ok (.if_icmp .gt 101, 3) := by decide +kernel
theorem dX5_bestCell_36 : decode cX5_bestCell 36 = .ok (.iconst 0, 1) := by decide +kernel
theorem dX5_bestCell_37 : decode cX5_bestCell 37 = .ok (.istore 6, 2) := by decide +kernel
theorem dX5_bestCell_39 : decode cX5_bestCell 39 = .ok (.iload 6, 2) := by decide +kernel
theorem dX5_bestCell_41 : decode cX5_bestCell 41 = .ok (.bipush 7, 2) := by decide +kernel
theorem dX5_bestCell_43 : decode cX5_bestCell 43 = .ok (.if_icmp .ge 85, 3) := by decide +kernel
theorem dX5_bestCell_46 : decode cX5_bestCell 46 = .ok (.aload_n 1, 1) := by decide +kernel
theorem dX5_bestCell_47 : decode cX5_bestCell 47 = .ok (.iload 5, 2) := by decide +kernel
theorem dX5_bestCell_49 : decode cX5_bestCell 49 = .ok (.iload 6, 2) := by decide +kernel
theorem dX5_bestCell_51 : decode cX5_bestCell 51 = .ok (.invokevirtual 54, 3) := by decide +kernel
theorem dX5_bestCell_54 : decode cX5_bestCell 54 = .ok (.istore 7, 2) := by decide +kernel
theorem dX5_bestCell_56 : decode cX5_bestCell 56 = .ok (.iload 7, 2) := by decide +kernel
theorem dX5_bestCell_58 : decode cX5_bestCell 58 = .ok (.ifCond .lt 12, 3) := by decide +kernel
theorem dX5_bestCell_61 : decode cX5_bestCell 61 = .ok (.iload 7, 2) := by decide +kernel
theorem dX5_bestCell_63 : decode cX5_bestCell 63 = .ok (.iload_n 2, 1) := by decide +kernel
theorem dX5_bestCell_64 : decode cX5_bestCell 64 = .ok (.if_icmp .eq 6, 3) := by decide +kernel
theorem dX5_bestCell_67 : decode cX5_bestCell 67 = .ok (.goto 55, 3) := by decide +kernel
theorem dX5_bestCell_70 : decode cX5_bestCell 70 = .ok (.aload_n 0, 1) := by decide +kernel
theorem dX5_bestCell_71 : decode cX5_bestCell 71 = .ok (.getfield 12, 3) := by decide +kernel
theorem dX5_bestCell_74 : decode cX5_bestCell 74 = .ok (.getfield 39, 3) := by decide +kernel
theorem dX5_bestCell_77 : decode cX5_bestCell 77 = .ok (.iload_n 2, 1) := by decide +kernel
theorem dX5_bestCell_78 : decode cX5_bestCell 78 = .ok (.aaload, 1) := by decide +kernel
theorem dX5_bestCell_79 : decode cX5_bestCell 79 = .ok (.iload 5, 2) := by decide +kernel
theorem dX5_bestCell_81 : decode cX5_bestCell 81 = .ok (.iload 6, 2) := by decide +kernel
theorem dX5_bestCell_83 : decode cX5_bestCell 83 = .ok (.invokevirtual 58, 3) := by decide +kernel
theorem dX5_bestCell_86 : decode cX5_bestCell 86 = .ok (.aload_n 0, 1) := by decide +kernel
theorem dX5_bestCell_87 : decode cX5_bestCell 87 = .ok (.getfield 12, 3) := by decide +kernel
theorem dX5_bestCell_90 : decode cX5_bestCell 90 = .ok (.iload_n 2, 1) := by decide +kernel
theorem dX5_bestCell_91 : decode cX5_bestCell 91 = .ok (.iload_n 3, 1) := by decide +kernel
theorem dX5_bestCell_92 : decode cX5_bestCell 92 = .ok (.invokevirtual 62, 3) := by decide +kernel
theorem dX5_bestCell_95 : decode cX5_bestCell 95 = .ok (.istore 8, 2) := by decide +kernel
theorem dX5_bestCell_97 : decode cX5_bestCell 97 = .ok (.iload 8, 2) := by decide +kernel
theorem dX5_bestCell_99 : decode cX5_bestCell 99 = .ok (.aload_n 0, 1) := by decide +kernel
theorem dX5_bestCell_100 : decode cX5_bestCell 100 = .ok (.getfield 48, 3) := by decide +kernel
theorem dX5_bestCell_103 : decode cX5_bestCell 103 = .ok (.if_icmp .le 19, 3) := by decide +kernel
theorem dX5_bestCell_106 : decode cX5_bestCell 106 = .ok (.aload_n 0, 1) := by decide +kernel
theorem dX5_bestCell_107 : decode cX5_bestCell 107 = .ok (.iload 8, 2) := by decide +kernel
theorem dX5_bestCell_109 : decode cX5_bestCell 109 = .ok (.putfield 48, 3) := by decide +kernel
theorem dX5_bestCell_112 : decode cX5_bestCell 112 = .ok (.bipush 10, 2) := by decide +kernel
theorem dX5_bestCell_114 : decode cX5_bestCell 114 = .ok (.iload 5, 2) := by decide +kernel
theorem dX5_bestCell_116 : decode cX5_bestCell 116 = .ok (.imul, 1) := by decide +kernel
theorem dX5_bestCell_117 : decode cX5_bestCell 117 = .ok (.iload 6, 2) := by decide +kernel
theorem dX5_bestCell_119 : decode cX5_bestCell 119 = .ok (.iadd, 1) := by decide +kernel
theorem dX5_bestCell_120 : decode cX5_bestCell 120 = .ok (.istore 4, 2) := by decide +kernel
theorem dX5_bestCell_122 : decode cX5_bestCell 122 = .ok (.iinc 6 1, 3) := by decide +kernel
theorem dX5_bestCell_125 : decode cX5_bestCell 125 = .ok (.goto (-86), 3) := by decide +kernel
theorem dX5_bestCell_128 : decode cX5_bestCell 128 = .ok (.iinc 5 1, 3) := by decide +kernel
theorem dX5_bestCell_131 : decode cX5_bestCell 131 = .ok (.goto (-104), 3) := by decide +kernel
theorem dX5_bestCell_134 : decode cX5_bestCell 134 = .ok (.iload 4, 2) := by decide +kernel
theorem dX5_bestCell_136 : decode cX5_bestCell 136 = .ok (.ireturn, 1) := by decide +kernel
theorem dX5_sulkersNow_0 : decode cX5_sulkersNow 0 = .ok (.aload_n 0, 1) := by decide +kernel
theorem dX5_sulkersNow_1 : decode cX5_sulkersNow 1 = .ok (.getfield 12, 3) := by decide +kernel
theorem dX5_sulkersNow_4 : decode cX5_sulkersNow 4 = .ok (.aload_n 1, 1) := by decide +kernel
theorem dX5_sulkersNow_5 : decode cX5_sulkersNow 5 = .ok (.invokevirtual 18, 3) := by decide +kernel
theorem dX5_sulkersNow_8 : decode cX5_sulkersNow 8 = .ok (.aload_n 0, 1) := by decide +kernel
theorem dX5_sulkersNow_9 : decode cX5_sulkersNow 9 = .ok (.invokevirtual 65, 3) := by decide +kernel
theorem dX5_sulkersNow_12 : decode cX5_sulkersNow 12 = .ok (.ireturn, 1) := by decide +kernel
theorem dX5_sulkers_0 : decode cX5_sulkers 0 = .ok (.aload_n 0, 1) := by decide +kernel
theorem dX5_sulkers_1 : decode cX5_sulkers 1 = .ok (.getfield 12, 3) := by decide +kernel
theorem dX5_sulkers_4 : decode cX5_sulkers 4 = .ok (.getfield 32, 3) := by decide +kernel
theorem dX5_sulkers_7 : decode cX5_sulkers 7 = .ok (.istore_n 1, 1) := by decide +kernel
theorem dX5_sulkers_8 : decode cX5_sulkers 8 = .ok (.aload_n 0, 1) := by decide +kernel
theorem dX5_sulkers_9 : decode cX5_sulkers 9 = .ok (.getfield 12, 3) := by decide +kernel
theorem dX5_sulkers_12 : decode cX5_sulkers 12 = .ok (.iconst 0, 1) := by decide +kernel
theorem dX5_sulkers_13 : decode cX5_sulkers 13 = .ok (.invokevirtual 36, 3) := by decide +kernel
theorem dX5_sulkers_16 : decode cX5_sulkers 16 = .ok (.istore_n 2, 1) := by decide +kernel
theorem dX5_sulkers_17 : decode cX5_sulkers 17 = .ok (.iconst 0, 1) := by decide +kernel
theorem dX5_sulkers_18 : decode cX5_sulkers 18 = .ok (.istore_n 3, 1) := by decide +kernel
theorem dX5_sulkers_19 : decode cX5_sulkers 19 = .ok (.iconst 0, 1) := by decide +kernel
theorem dX5_sulkers_20 : decode cX5_sulkers 20 = .ok (.istore 4, 2) := by decide +kernel
theorem dX5_sulkers_22 : decode cX5_sulkers 22 = .ok (.iload 4, 2) := by decide +kernel
theorem dX5_sulkers_24 : decode cX5_sulkers 24 = .ok (.aload_n 0, 1) := by decide +kernel
theorem dX5_sulkers_25 : decode cX5_sulkers 25 = .ok (.getfield 12, 3) := by decide +kernel
theorem dX5_sulkers_28 : decode cX5_sulkers 28 = .ok (.getfield 68, 3) := by decide +kernel
theorem dX5_sulkers_31 : decode cX5_sulkers 31 = .ok (.if_icmp .ge 100, 3) := by decide +kernel
theorem dX5_sulkers_34 : decode cX5_sulkers 34 = .ok (.aload_n 0, 1) := by decide +kernel
theorem dX5_sulkers_35 : decode cX5_sulkers 35 = .ok (.getfield 12, 3) := by decide +kernel
theorem dX5_sulkers_38 : decode cX5_sulkers 38 = .ok (.iload_n 1, 1) := by decide +kernel
theorem dX5_sulkers_39 : decode cX5_sulkers 39 = .ok (.iconst 1, 1) := by decide +kernel
theorem dX5_sulkers_40 : decode cX5_sulkers 40 = .ok (.iload 4, 2) := by decide +kernel
theorem dX5_sulkers_42 : decode cX5_sulkers 42 = .ok (.ishl, 1) := by decide +kernel
theorem dX5_sulkers_43 : decode cX5_sulkers 43 = .ok (.ixor, 1) := by decide +kernel
theorem dX5_sulkers_44 : decode cX5_sulkers 44 = .ok (.putfield 32, 3) := by decide +kernel
theorem dX5_sulkers_47 : decode cX5_sulkers 47 = .ok (.iload_n 2, 1) := by decide +kernel
theorem dX5_sulkers_48 : decode cX5_sulkers 48 = .ok (.iload 4, 2) := by decide +kernel
theorem dX5_sulkers_50 : decode cX5_sulkers 50 = .ok (.if_icmp .ne 7, 3) := by decide +kernel
theorem dX5_sulkers_53 : decode cX5_sulkers 53 = .ok (.iconst 1, 1) := by decide +kernel
theorem dX5_sulkers_54 : decode cX5_sulkers 54 = .ok (.goto 4, 3) := by decide +kernel
theorem dX5_sulkers_57 : decode cX5_sulkers 57 = .ok (.iconst 0, 1) := by decide +kernel
theorem dX5_sulkers_58 : decode cX5_sulkers 58 = .ok (.istore 5, 2) := by decide +kernel
theorem dX5_sulkers_60 : decode cX5_sulkers 60 = .ok (.aload_n 0, 1) := by decide +kernel
theorem dX5_sulkers_61 : decode cX5_sulkers 61 = .ok (.getfield 12, 3) := by decide +kernel
theorem dX5_sulkers_64 : decode cX5_sulkers 64 = .ok (.iconst 0, 1) := by decide +kernel
theorem dX5_sulkers_65 : decode cX5_sulkers 65 = .ok (.invokevirtual 36, 3) := by decide +kernel
theorem dX5_sulkers_68 : decode cX5_sulkers 68 = .ok (.iload 4, 2) := by decide +kernel
theorem dX5_sulkers_70 : decode cX5_sulkers 70 = .ok (.if_icmp .ne 7, 3) := by decide +kernel
theorem dX5_sulkers_73 : decode cX5_sulkers 73 = .ok (.iconst 1, 1) := by decide +kernel
theorem dX5_sulkers_74 : decode cX5_sulkers 74 = .ok (.goto 4, 3) := by decide +kernel
theorem dX5_sulkers_77 : decode cX5_sulkers 77 = .ok (.iconst 0, 1) := by decide +kernel
theorem dX5_sulkers_78 : decode cX5_sulkers 78 = .ok (.istore 6, 2) := by decide +kernel
theorem dX5_sulkers_80 : decode cX5_sulkers 80 = .ok (.aload_n 0, 1) := by decide +kernel
theorem dX5_sulkers_81 : decode cX5_sulkers 81 = .ok (.getfield 12, 3) := by decide +kernel
theorem dX5_sulkers_84 : decode cX5_sulkers 84 = .ok (.getfield 39, 3) := by decide +kernel
theorem dX5_sulkers_87 : decode cX5_sulkers 87 = .ok (.iload 4, 2) := by decide +kernel
theorem dX5_sulkers_89 : decode cX5_sulkers 89 = .ok (.aaload, 1) := by decide +kernel
theorem dX5_sulkers_90 : decode cX5_sulkers 90 = .ok (.getfield 71, 3) := by decide +kernel
theorem dX5_sulkers_93 : decode cX5_sulkers 93 = .ok (.iconst 1, 1) := by decide +kernel
theorem dX5_sulkers_94 : decode cX5_sulkers 94 = .ok (.if_icmp .ne 7, 3) := by decide +kernel
theorem dX5_sulkers_97 : decode cX5_sulkers 97 = .ok (.iconst 1, 1) := by decide +kernel
theorem dX5_sulkers_98 : decode cX5_sulkers 98 = .ok (.goto 4, 3) := by decide +kernel
theorem dX5_sulkers_101 : decode cX5_sulkers 101 = .ok (.iconst 0, 1) := by decide +kernel
theorem dX5_sulkers_102 : decode cX5_sulkers 102 = .ok (.istore 7, 2) := by decide +kernel
theorem dX5_sulkers_104 : decode cX5_sulkers 104 = .ok (.iload 5, 2) := by decide +kernel
theorem dX5_sulkers_106 : decode cX5_sulkers 106 = .ok (.iload 6, 2) := by decide +kernel
theorem dX5_sulkers_108 : decode cX5_sulkers 108 = .ok (.if_icmp .eq 17, 3) := by decide +kernel
theorem dX5_sulkers_111 : decode cX5_sulkers 111 = .ok (.iload 6, 2) := by decide +kernel
theorem dX5_sulkers_113 : decode cX5_sulkers 113 = .ok (.iload 7, 2) := by decide +kernel
theorem dX5_sulkers_115 : decode cX5_sulkers 115 = .ok (.if_icmp .ne 10, 3) := by decide +kernel
theorem dX5_sulkers_118 : decode cX5_sulkers 118 = .ok (.iload_n 3, 1) := by decide +kernel
theorem dX5_sulkers_119 : decode cX5_sulkers 119 = .ok (.iconst 1, 1) := by decide +kernel
theorem dX5_sulkers_120 : decode cX5_sulkers 120 = .ok (.iload 4, 2) := by decide +kernel
theorem dX5_sulkers_122 : decode cX5_sulkers 122 = .ok (.ishl, 1) := by decide +kernel
theorem dX5_sulkers_123 : decode cX5_sulkers 123 = .ok (.ior, 1) := by decide +kernel
theorem dX5_sulkers_124 : decode cX5_sulkers 124 = .ok (.istore_n 3, 1) := by decide +kernel
theorem dX5_sulkers_125 : decode cX5_sulkers 125 = .ok (.iinc 4 1, 3) := by decide +kernel
theorem dX5_sulkers_128 : decode cX5_sulkers 128 = .ok (.goto (-106), 3) := by decide +kernel
theorem dX5_sulkers_131 : decode cX5_sulkers 131 = .ok (.aload_n 0, 1) := by decide +kernel
theorem dX5_sulkers_132 : decode cX5_sulkers 132 = .ok (.getfield 12, 3) := by decide +kernel
theorem dX5_sulkers_135 : decode cX5_sulkers 135 = .ok (.iload_n 1, 1) := by decide +kernel
theorem dX5_sulkers_136 : decode cX5_sulkers 136 = .ok (.putfield 32, 3) := by decide +kernel
theorem dX5_sulkers_139 : decode cX5_sulkers 139 = .ok (.iload_n 3, 1) := by decide +kernel
theorem dX5_sulkers_140 : decode cX5_sulkers 140 = .ok (.ireturn, 1) := by decide +kernel
theorem dX5_turnsToPeace_0 : decode cX5_turnsToPeace 0 = .ok (.aload_n 0, 1) := by decide +kernel
theorem dX5_turnsToPeace_1 : decode cX5_turnsToPeace 1 = .ok (.getfield 12, 3) := by decide +kernel
theorem dX5_turnsToPeace_4 : decode cX5_turnsToPeace 4 = .ok (.aload_n 1, 1) := by decide +kernel
theorem dX5_turnsToPeace_5 : decode cX5_turnsToPeace 5 = .ok (.invokevirtual 18, 3) := by decide +kernel
theorem dX5_turnsToPeace_8 : decode cX5_turnsToPeace 8 = .ok (.iconst 0, 1) := by decide +kernel
theorem dX5_turnsToPeace_9 : decode cX5_turnsToPeace 9 = .ok (.istore_n 2, 1) := by decide +kernel
theorem dX5_turnsToPeace_10 : decode cX5_turnsToPeace 10 = .ok (.iload_n 2, 1) := by decide +kernel
theorem dX5_turnsToPeace_11 : decode cX5_turnsToPeace 11 = .ok (.bipush 40, 2) := by decide +kernel
theorem dX5_turnsToPeace_13 : decode cX5_turnsToPeace 13 = .ok (.if_icmp .gt 36, 3) := by decide +kernel
theorem dX5_turnsToPeace_16 : decode cX5_turnsToPeace 16 = .ok (.aload_n 0, 1) := by decide +kernel
theorem dX5_turnsToPeace_17 : decode cX5_turnsToPeace 17 = .ok (.invokevirtual 65, 3) := by decide +kernel
theorem dX5_turnsToPeace_20 : decode cX5_turnsToPeace 20 = .ok (.istore_n 3, 1) := by decide +kernel
theorem dX5_turnsToPeace_21 : decode cX5_turnsToPeace 21 = .ok (.iload_n 3, 1) := by decide +kernel
theorem dX5_turnsToPeace_22 : decode cX5_turnsToPeace 22 = .ok (.ifCond .ne 5, 3) := by decide +kernel
theorem dX5_turnsToPeace_25 : decode cX5_turnsToPeace 25 = .ok (.iload_n 2, 1) := by decide +kernel
theorem dX5_turnsToPeace_26 : decode cX5_turnsToPeace 26 = .ok (.ireturn, 1) := by decide +kernel
theorem dX5_turnsToPeace_27 : decode cX5_turnsToPeace 27 = .ok (.aload_n 0, 1) := by decide +kernel
theorem dX5_turnsToPeace_28 : decode cX5_turnsToPeace 28 = .ok (.getfield 12, 3) := by decide +kernel
theorem dX5_turnsToPeace_31 : decode cX5_turnsToPeace 31 = .ok (.dup, 1) := by decide +kernel
theorem dX5_turnsToPeace_32 : decode cX5_turnsToPeace 32 = .ok (.getfield 32, 3) := by decide +kernel
theorem dX5_turnsToPeace_35 : decode cX5_turnsToPeace 35 = .ok (.iload_n 3, 1) := by decide +kernel
theorem dX5_turnsToPeace_36 : decode cX5_turnsToPeace 36 = .ok (.invokestatic 74, 3) := by decide +kernel
theorem dX5_turnsToPeace_39 : decode cX5_turnsToPeace 39 = .ok (.ixor, 1) := by decide +kernel
theorem dX5_turnsToPeace_40 : decode cX5_turnsToPeace 40 = .ok (.putfield 32, 3) := by decide +kernel
theorem dX5_turnsToPeace_43 : decode cX5_turnsToPeace 43 = .ok (.iinc 2 1, 3) := by decide +kernel
theorem dX5_turnsToPeace_46 : decode cX5_turnsToPeace 46 = .ok (.goto (-36), 3) := by decide +kernel
theorem dX5_turnsToPeace_49 : decode cX5_turnsToPeace 49 = .ok (.iconst (-1), 1) := by decide +kernel
theorem dX5_turnsToPeace_50 : decode cX5_turnsToPeace 50 = .ok (.ireturn, 1) := by decide +kernel
theorem dX5_lawsThatFit_0 : decode cX5_lawsThatFit 0 = .ok (.aload_n 0, 1) := by decide +kernel
theorem dX5_lawsThatFit_1 : decode cX5_lawsThatFit 1 = .ok (.getfield 12, 3) := by decide +kernel
theorem dX5_lawsThatFit_4 : decode cX5_lawsThatFit 4 = .ok (.aload_n 1, 1) := by decide +kernel
theorem dX5_lawsThatFit_5 : decode cX5_lawsThatFit 5 = .ok (.invokevirtual 18, 3) := by decide +kernel
theorem dX5_lawsThatFit_8 : decode cX5_lawsThatFit 8 = .ok (.iconst 0, 1) := by decide +kernel
theorem dX5_lawsThatFit_9 : decode cX5_lawsThatFit 9 = .ok (.istore 6, 2) := by decide +kernel
theorem dX5_lawsThatFit_11 : decode cX5_lawsThatFit 11 = .ok (.iconst 1, 1) := by decide +kernel
theorem dX5_lawsThatFit_12 : decode cX5_lawsThatFit 12 = .ok (.iload_n 2, 1) := by decide +kernel
theorem dX5_lawsThatFit_13 : decode cX5_lawsThatFit 13 = .ok (.iadd, 1) := by decide +kernel
theorem dX5_lawsThatFit_14 : decode cX5_lawsThatFit 14 = .ok (.istore 7, 2) := by decide +kernel
theorem dX5_lawsThatFit_16 : decode cX5_lawsThatFit 16 = .ok (.iload 7, 2) := by decide +kernel
theorem dX5_lawsThatFit_18 : decode cX5_lawsThatFit 18 = .ok (.iconst 0, 1) := by decide +kernel
theorem dX5_lawsThatFit_19 : decode cX5_lawsThatFit 19 = .ok (.getstatic 77, 3) := by decide +kernel
theorem dX5_lawsThatFit_22 : decode cX5_lawsThatFit 22 = .ok (.arraylength, 1) := by decide +kernel
theorem dX5_lawsThatFit_23 : decode cX5_lawsThatFit 23 = .ok (.iconst 1, 1) := by decide +kernel
theorem dX5_lawsThatFit_24 : decode cX5_lawsThatFit 24 = .ok (.isub, 1) := by decide +kernel
theorem dX5_lawsThatFit_25 : decode cX5_lawsThatFit 25 = .ok (.invokestatic 81, 3) := by decide +kernel
theorem dX5_lawsThatFit_28 : decode cX5_lawsThatFit 28 = .ok (.ifCond .ne 6, 3) := by decide +kernel
theorem dX5_lawsThatFit_31 : decode cX5_lawsThatFit 31 = .ok (.iload 6, 2) := by decide +kernel
theorem dX5_lawsThatFit_33 : decode cX5_lawsThatFit 33 = .ok (.ireturn, 1) := by decide +kernel
theorem dX5_lawsThatFit_34 : decode cX5_lawsThatFit 34 = .ok (.getstatic 77, 3) := by decide +kernel
theorem dX5_lawsThatFit_37 : decode cX5_lawsThatFit 37 = .ok (.iload 7, 2) := by decide +kernel
theorem dX5_lawsThatFit_39 : decode cX5_lawsThatFit 39 = .ok (.iaload, 1) := by decide +kernel
theorem dX5_lawsThatFit_40 : decode cX5_lawsThatFit 40 = .ok (.istore 8, 2) := by decide +kernel
theorem dX5_lawsThatFit_42 : decode cX5_lawsThatFit 42 = .ok (.iload 8, 2) := by decide +kernel
theorem dX5_lawsThatFit_44 : decode cX5_lawsThatFit 44 = .ok (.getstatic 85, 3) := by decide +kernel
theorem dX5_lawsThatFit_47 : decode cX5_lawsThatFit 47 = .ok (.iload 7, 2) := by decide +kernel
theorem dX5_lawsThatFit_49 : decode cX5_lawsThatFit 49 = .ok (.iaload, 1) := by decide +kernel
theorem dX5_lawsThatFit_50 : decode cX5_lawsThatFit 50 = .ok (.if_icmp .gt 41, 3) := by decide +kernel
theorem dX5_lawsThatFit_53 : decode cX5_lawsThatFit 53 = .ok (.aload_n 0, 1) := by decide +kernel
theorem dX5_lawsThatFit_54 : decode cX5_lawsThatFit 54 = .ok (.getfield 12, 3) := by decide +kernel
theorem dX5_lawsThatFit_57 : decode cX5_lawsThatFit 57 = .ok (.iload 7, 2) := by decide +kernel
theorem dX5_lawsThatFit_59 : decode cX5_lawsThatFit 59 = .ok (.iload 8, 2) := by decide +kernel
theorem dX5_lawsThatFit_61 : decode cX5_lawsThatFit 61 = .ok (.invokevirtual 88, 3) := by decide +kernel
theorem dX5_lawsThatFit_64 : decode cX5_lawsThatFit 64 = .ok (.aload_n 0, 1) := by decide +kernel
theorem dX5_lawsThatFit_65 : decode cX5_lawsThatFit 65 = .ok (.aload_n 3, 1) := by decide +kernel
theorem dX5_lawsThatFit_66 : decode cX5_lawsThatFit 66 = .ok (.iload 4, 2) := by decide +kernel
theorem dX5_lawsThatFit_68 : decode cX5_lawsThatFit 68 = .ok (.iload 5, 2) := by decide +kernel
theorem dX5_lawsThatFit_70 : decode cX5_lawsThatFit 70 = .ok (.invokevirtual 91, 3) := by decide +kernel
theorem dX5_lawsThatFit_73 : decode cX5_lawsThatFit 73 = .ok (.ifCond .eq 12, 3) := by decide +kernel
theorem dX5_lawsThatFit_76 : decode cX5_lawsThatFit 76 = .ok (.iload 6, 2) := by decide +kernel
theorem dX5_lawsThatFit_78 : decode cX5_lawsThatFit 78 = .ok (.iconst 1, 1) := by decide +kernel
theorem dX5_lawsThatFit_79 : decode cX5_lawsThatFit 79 = .ok (.iload 8, 2) := by decide +kernel
theorem dX5_lawsThatFit_81 : decode cX5_lawsThatFit 81 = .ok (.ishl, 1) := by decide +kernel
theorem dX5_lawsThatFit_82 : decode cX5_lawsThatFit 82 = .ok (.ior, 1) := by decide +kernel
theorem dX5_lawsThatFit_83 : decode cX5_lawsThatFit 83 = .ok (.istore 6, 2) := by decide +kernel
theorem dX5_lawsThatFit_85 : decode cX5_lawsThatFit 85 = .ok (.iinc 8 1, 3) := by decide +kernel
theorem dX5_lawsThatFit_88 : decode cX5_lawsThatFit 88 = .ok (.goto (-46), 3) := by decide +kernel
theorem dX5_lawsThatFit_91 : decode cX5_lawsThatFit 91 = .ok (.iload 6, 2) := by decide +kernel
theorem dX5_lawsThatFit_93 : decode cX5_lawsThatFit 93 = .ok (.ireturn, 1) := by decide +kernel
theorem dX5_kindsThatFit_0 : decode cX5_kindsThatFit 0 = .ok (.aload_n 0, 1) := by decide +kernel
theorem dX5_kindsThatFit_1 : decode cX5_kindsThatFit 1 = .ok (.getfield 12, 3) := by decide +kernel
theorem dX5_kindsThatFit_4 : decode cX5_kindsThatFit 4 = .ok (.aload_n 1, 1) := by decide +kernel
theorem dX5_kindsThatFit_5 : decode cX5_kindsThatFit 5 = .ok (.invokevirtual 18, 3) := by decide +kernel
theorem dX5_kindsThatFit_8 : decode cX5_kindsThatFit 8 = .ok (.iconst 0, 1) := by decide +kernel
theorem dX5_kindsThatFit_9 : decode cX5_kindsThatFit 9 = .ok (.istore 6, 2) := by decide +kernel
theorem dX5_kindsThatFit_11 : decode cX5_kindsThatFit 11 = .ok (.iconst 1, 1) := by decide +kernel
theorem dX5_kindsThatFit_12 : decode cX5_kindsThatFit 12 = .ok (.istore 7, 2) := by decide +kernel
theorem dX5_kindsThatFit_14 : decode cX5_kindsThatFit 14 = .ok (.iload 7, 2) := by decide +kernel
theorem dX5_kindsThatFit_16 : decode cX5_kindsThatFit 16 = .ok (.iconst 5, 1) := by decide +kernel
theorem dX5_kindsThatFit_17 : decode cX5_kindsThatFit 17 = .ok (.if_icmp .gt 44, 3) := by decide +kernel
theorem dX5_kindsThatFit_20 : decode cX5_kindsThatFit 20 = .ok (.aload_n 0, 1) := by decide +kernel
theorem dX5_kindsThatFit_21 : decode cX5_kindsThatFit 21 = .ok (.getfield 12, 3) := by decide +kernel
theorem dX5_kindsThatFit_24 : decode cX5_kindsThatFit 24 = .ok (.getfield 39, 3) := by decide +kernel
theorem dX5_kindsThatFit_27 : decode cX5_kindsThatFit 27 = .ok (.iload_n 2, 1) := by decide +kernel
theorem dX5_kindsThatFit_28 : decode cX5_kindsThatFit 28 = .ok (.aaload, 1) := by decide +kernel
theorem dX5_kindsThatFit_29 : decode cX5_kindsThatFit 29 = .ok (.iload 7, 2) := by decide +kernel
theorem dX5_kindsThatFit_31 : decode cX5_kindsThatFit 31 = .ok (.putfield 95, 3) := by decide +kernel
theorem dX5_kindsThatFit_34 : decode cX5_kindsThatFit 34 = .ok (.aload_n 0, 1) := by decide +kernel
theorem dX5_kindsThatFit_35 : decode cX5_kindsThatFit 35 = .ok (.aload_n 3, 1) := by decide +kernel
theorem dX5_kindsThatFit_36 : decode cX5_kindsThatFit 36 = .ok (.iload 4, 2) := by decide +kernel
theorem dX5_kindsThatFit_38 : decode cX5_kindsThatFit 38 = .ok (.iload 5, 2) := by decide +kernel
theorem dX5_kindsThatFit_40 : decode cX5_kindsThatFit 40 = .ok (.invokevirtual 91, 3) := by decide +kernel
theorem dX5_kindsThatFit_43 : decode cX5_kindsThatFit 43 = .ok (.ifCond .eq 12, 3) := by decide +kernel
theorem dX5_kindsThatFit_46 : decode cX5_kindsThatFit 46 = .ok (.iload 6, 2) := by decide +kernel
theorem dX5_kindsThatFit_48 : decode cX5_kindsThatFit 48 = .ok (.iconst 1, 1) := by decide +kernel
theorem dX5_kindsThatFit_49 : decode cX5_kindsThatFit 49 = .ok (.iload 7, 2) := by decide +kernel
theorem dX5_kindsThatFit_51 : decode cX5_kindsThatFit 51 = .ok (.ishl, 1) := by decide +kernel
theorem dX5_kindsThatFit_52 : decode cX5_kindsThatFit 52 = .ok (.ior, 1) := by decide +kernel
theorem dX5_kindsThatFit_53 : decode cX5_kindsThatFit 53 = .ok (.istore 6, 2) := by decide +kernel
theorem dX5_kindsThatFit_55 : decode cX5_kindsThatFit 55 = .ok (.iinc 7 1, 3) := by decide +kernel
theorem dX5_kindsThatFit_58 : decode cX5_kindsThatFit 58 = .ok (.goto (-44), 3) := by decide +kernel
theorem dX5_kindsThatFit_61 : decode cX5_kindsThatFit 61 = .ok (.iload 6, 2) := by decide +kernel
theorem dX5_kindsThatFit_63 : decode cX5_kindsThatFit 63 = .ok (.ireturn, 1) := by decide +kernel
theorem dX5_fits_0 : decode cX5_fits 0 = .ok (.iconst 0, 1) := by decide +kernel
theorem dX5_fits_1 : decode cX5_fits 1 = .ok (.istore 4, 2) := by decide +kernel
theorem dX5_fits_3 : decode cX5_fits 3 = .ok (.iload 4, 2) := by decide +kernel
theorem dX5_fits_5 : decode cX5_fits 5 = .ok (.iload_n 3, 1) := by decide +kernel
theorem dX5_fits_6 : decode cX5_fits 6 = .ok (.if_icmp .ge 32, 3) := by decide +kernel
theorem dX5_fits_9 : decode cX5_fits 9 = .ok (.aload_n 0, 1) := by decide +kernel
theorem dX5_fits_10 : decode cX5_fits 10 = .ok (.getfield 12, 3) := by decide +kernel
theorem dX5_fits_13 : decode cX5_fits 13 = .ok (.iload 4, 2) := by decide +kernel
theorem dX5_fits_15 : decode cX5_fits 15 = .ok (.invokevirtual 36, 3) := by decide +kernel
theorem dX5_fits_18 : decode cX5_fits 18 = .ok (.aload_n 1, 1) := by decide +kernel
theorem dX5_fits_19 : decode cX5_fits 19 = .ok (.getfield 98, 3) := by decide +kernel
theorem dX5_fits_22 : decode cX5_fits 22 = .ok (.iload_n 2, 1) := by decide +kernel
theorem dX5_fits_23 : decode cX5_fits 23 = .ok (.iload 4, 2) := by decide +kernel
theorem dX5_fits_25 : decode cX5_fits 25 = .ok (.iadd, 1) := by decide +kernel
theorem dX5_fits_26 : decode cX5_fits 26 = .ok (.iaload, 1) := by decide +kernel
theorem dX5_fits_27 : decode cX5_fits 27 = .ok (.if_icmp .eq 5, 3) := by decide +kernel
theorem dX5_fits_30 : decode cX5_fits 30 = .ok (.iconst 0, 1) := by decide +kernel
theorem dX5_fits_31 : decode cX5_fits 31 = .ok (.ireturn, 1) := by decide +kernel
theorem dX5_fits_32 : decode cX5_fits 32 = .ok (.iinc 4 1, 3) := by decide +kernel
theorem dX5_fits_35 : decode cX5_fits 35 = .ok (.goto (-32), 3) := by decide +kernel
theorem dX5_fits_38 : decode cX5_fits 38 = .ok (.iconst 1, 1) := by decide +kernel
theorem dX5_fits_39 : decode cX5_fits 39 = .ok (.ireturn, 1) := by decide +kernel
theorem dX5_playedWays_0 : decode cX5_playedWays 0 = .ok (.aload_n 0, 1) := by decide +kernel
theorem dX5_playedWays_1 : decode cX5_playedWays 1 = .ok (.getfield 12, 3) := by decide +kernel
theorem dX5_playedWays_4 : decode cX5_playedWays 4 = .ok (.aload_n 1, 1) := by decide +kernel
theorem dX5_playedWays_5 : decode cX5_playedWays 5 = .ok (.invokevirtual 18, 3) := by decide +kernel
theorem dX5_playedWays_8 : decode cX5_playedWays 8 = .ok (.iconst 0, 1) := by decide +kernel
theorem dX5_playedWays_9 : decode cX5_playedWays 9 = .ok (.istore 4, 2) := by decide +kernel
theorem dX5_playedWays_11 : decode cX5_playedWays 11 = .ok (.iconst 0, 1) := by decide +kernel
theorem dX5_playedWays_12 : decode cX5_playedWays 12 = .ok (.istore 5, 2) := by decide +kernel
theorem dX5_playedWays_14 : decode cX5_playedWays 14 = .ok (.iload 5, 2) := by decide +kernel
theorem dX5_playedWays_16 : decode cX5_playedWays 16 = .ok (.aload_n 1, 1) := by decide +kernel
theorem dX5_playedWays_17 : decode cX5_playedWays 17 = .ok (.invokevirtual 22, 3) := by decide +kernel
theorem dX5_playedWays_20 : decode cX5_playedWays 20 = .ok (.if_icmp .gt 68, 3) := by decide +kernel
theorem dX5_playedWays_23 : decode cX5_playedWays 23 = .ok (.aload_n 0, 1) := by decide +kernel
theorem dX5_playedWays_24 : decode cX5_playedWays 24 = .ok (.getfield 12, 3) := by decide +kernel
theorem dX5_playedWays_27 : decode cX5_playedWays 27 = .ok (.aload_n 1, 1) := by decide +kernel
theorem dX5_playedWays_28 : decode cX5_playedWays 28 = .ok (.getfield 32, 3) := by decide +kernel
theorem dX5_playedWays_31 : decode cX5_playedWays 31 = .ok (.iload 5, 2) := by decide +kernel
theorem dX5_playedWays_33 : decode cX5_playedWays 33 = .ok (.ixor, 1) := by decide +kernel
theorem dX5_playedWays_34 : decode cX5_playedWays 34 = .ok (.putfield 32, 3) := by decide +kernel
theorem dX5_playedWays_37 : decode cX5_playedWays 37 = .ok (.aload_n 0, 1) := by decide +kernel
theorem dX5_playedWays_38 : decode cX5_playedWays 38 = .ok (.getfield 12, 3) := by decide +kernel
theorem dX5_playedWays_41 : decode cX5_playedWays 41 = .ok (.iconst 0, 1) := by decide +kernel
theorem dX5_playedWays_42 : decode cX5_playedWays 42 = .ok (.invokevirtual 36, 3) := by decide +kernel
theorem dX5_playedWays_45 : decode cX5_playedWays 45 = .ok (.iload_n 2, 1) := by decide +kernel
theorem dX5_playedWays_46 : decode cX5_playedWays 46 = .ok (.if_icmp .ne 36, 3) := by decide +kernel
theorem dX5_playedWays_49 : decode cX5_playedWays 49 = .ok (.iload 5, 2) := by decide +kernel
end
section
theorem dX5_playedWays_51 : decode cX5_playedWays 51 = .ok (.invokestatic 26, 3) := by decide +kernel
theorem dX5_playedWays_54 : decode cX5_playedWays 54 = .ok (.istore 6, 2) := by decide +kernel
theorem dX5_playedWays_56 : decode cX5_playedWays 56 = .ok (.iload 4, 2) := by decide +kernel
theorem dX5_playedWays_58 : decode cX5_playedWays 58 = .ok (.iload_n 3, 1) := by decide +kernel
theorem dX5_playedWays_59 : decode cX5_playedWays 59 = .ok (.iload 6, 2) := by decide +kernel
theorem dX5_playedWays_61 : decode cX5_playedWays 61 = .ok (.invokestatic 103, 3) := by decide +kernel
theorem dX5_playedWays_64 : decode cX5_playedWays 64 = .ok (.bipush 10, 2) := by decide +kernel
theorem dX5_playedWays_66 : decode cX5_playedWays 66 = .ok (.iload_n 3, 1) := by decide +kernel
theorem dX5_playedWays_67 : decode cX5_playedWays 67 = .ok (.isub, 1) := by decide +kernel
theorem dX5_playedWays_68 : decode cX5_playedWays 68 = .ok (.aload_n 1, 1) := by decide +kernel
theorem dX5_playedWays_69 : decode cX5_playedWays 69 = .ok (.getfield 68, 3) := by decide +kernel
theorem dX5_playedWays_72 : decode cX5_playedWays 72 = .ok (.iload 6, 2) := by decide +kernel
theorem dX5_playedWays_74 : decode cX5_playedWays 74 = .ok (.isub, 1) := by decide +kernel
theorem dX5_playedWays_75 : decode cX5_playedWays 75 = .ok (.invokestatic 103, 3) := by decide +kernel
theorem dX5_playedWays_78 : decode cX5_playedWays 78 = .ok (.imul, 1) := by decide +kernel
theorem dX5_playedWays_79 : decode cX5_playedWays 79 = .ok (.iadd, 1) := by decide +kernel
theorem dX5_playedWays_80 : decode cX5_playedWays 80 = .ok (.istore 4, 2) := by decide +kernel
theorem dX5_playedWays_82 : decode cX5_playedWays 82 = .ok (.iinc 5 1, 3) := by decide +kernel
theorem dX5_playedWays_85 : decode cX5_playedWays 85 = .ok (.goto (-71), 3) := by decide +kernel
theorem dX5_playedWays_88 : decode cX5_playedWays 88 = .ok (.iload 4, 2) := by decide +kernel
theorem dX5_playedWays_90 : decode cX5_playedWays 90 = .ok (.ireturn, 1) := by decide +kernel
theorem dX5_drawCentury_0 : decode cX5_drawCentury 0 = .ok (.aload_n 0, 1) := by decide +kernel
theorem dX5_drawCentury_1 : decode cX5_drawCentury 1 = .ok (.getfield 12, 3) := by decide +kernel
theorem dX5_drawCentury_4 : decode cX5_drawCentury 4 = .ok (.aload_n 1, 1) := by decide +kernel
theorem dX5_drawCentury_5 : decode cX5_drawCentury 5 = .ok (.invokevirtual 18, 3) := by decide +kernel
theorem dX5_drawCentury_8 : decode cX5_drawCentury 8 = .ok (.aload_n 0, 1) := by decide +kernel
theorem dX5_drawCentury_9 : decode cX5_drawCentury 9 = .ok (.getfield 12, 3) := by decide +kernel
theorem dX5_drawCentury_12 : decode cX5_drawCentury 12 = .ok (.invokevirtual 106, 3) := by decide +kernel
theorem dX5_drawCentury_15 : decode cX5_drawCentury 15 = .ok (.iload_n 3, 1) := by decide +kernel
theorem dX5_drawCentury_16 : decode cX5_drawCentury 16 = .ok (.i2l, 1) := by decide +kernel
theorem dX5_drawCentury_17 : decode cX5_drawCentury 17 = .ok (.lstore 4, 2) := by decide +kernel
theorem dX5_drawCentury_19 : decode cX5_drawCentury 19 = .ok (.iconst 0, 1) := by decide +kernel
theorem dX5_drawCentury_20 : decode cX5_drawCentury 20 = .ok (.istore 6, 2) := by decide +kernel
theorem dX5_drawCentury_22 : decode cX5_drawCentury 22 = .ok (.iload 6, 2) := by decide +kernel
theorem dX5_drawCentury_24 : decode cX5_drawCentury 24 = .ok (.iload_n 2, 1) := by decide +kernel
theorem dX5_drawCentury_25 : decode cX5_drawCentury 25 = .ok (.if_icmp .ge 108, 3) := by decide +kernel
theorem dX5_drawCentury_28 : decode cX5_drawCentury 28 = .ok (.lload 4, 2) := by decide +kernel
theorem dX5_drawCentury_30 : decode cX5_drawCentury 30 = .ok (.ldc2_w 109, 3) := by decide +kernel
theorem dX5_drawCentury_33 : decode cX5_drawCentury 33 = .ok (.lmul, 1) := by decide +kernel
theorem dX5_drawCentury_34 : decode cX5_drawCentury 34 = .ok (.ldc2_w 111, 3) := by decide +kernel
theorem dX5_drawCentury_37 : decode cX5_drawCentury 37 = .ok (.lrem, 1) := by decide +kernel
theorem dX5_drawCentury_38 : decode cX5_drawCentury 38 = .ok (.lstore 4, 2) := by decide +kernel
theorem dX5_drawCentury_40 : decode cX5_drawCentury 40 = .ok (.aload_n 0, 1) := by decide +kernel
theorem dX5_drawCentury_41 : decode cX5_drawCentury 41 = .ok (.getfield 12, 3) := by decide +kernel
theorem dX5_drawCentury_44 : decode cX5_drawCentury 44 = .ok (.getfield 68, 3) := by decide +kernel
theorem dX5_drawCentury_47 : decode cX5_drawCentury 47 = .ok (.ifCond .le 40, 3) := by decide +kernel
theorem dX5_drawCentury_50 : decode cX5_drawCentury 50 = .ok (.lload 4, 2) := by decide +kernel
theorem dX5_drawCentury_52 : decode cX5_drawCentury 52 = .ok (.ldc2_w 113, 3) := by decide +kernel
theorem dX5_drawCentury_55 : decode cX5_drawCentury 55 = .ok (.lrem, 1) := by decide +kernel
theorem dX5_drawCentury_56 : decode cX5_drawCentury 56 = .ok (.lconst 0, 1) := by decide +kernel
theorem dX5_drawCentury_57 : decode cX5_drawCentury 57 = .ok (.lcmp, 1) := by decide +kernel
theorem dX5_drawCentury_58 : decode cX5_drawCentury 58 = .ok (.ifCond .ne 29, 3) := by decide +kernel
theorem dX5_drawCentury_61 : decode cX5_drawCentury 61 = .ok (.aload_n 0, 1) := by decide +kernel
theorem dX5_drawCentury_62 : decode cX5_drawCentury 62 = .ok (.getfield 12, 3) := by decide +kernel
theorem dX5_drawCentury_65 : decode cX5_drawCentury 65 = .ok (.dup, 1) := by decide +kernel
theorem dX5_drawCentury_66 : decode cX5_drawCentury 66 = .ok (.getfield 32, 3) := by decide +kernel
theorem dX5_drawCentury_69 : decode cX5_drawCentury 69 = .ok (.iconst 1, 1) := by decide +kernel
theorem dX5_drawCentury_70 : decode cX5_drawCentury 70 = .ok (.lload 4, 2) := by decide +kernel
theorem dX5_drawCentury_72 : decode cX5_drawCentury 72 = .ok (.aload_n 0, 1) := by decide +kernel
theorem dX5_drawCentury_73 : decode cX5_drawCentury 73 = .ok (.getfield 12, 3) := by decide +kernel
theorem dX5_drawCentury_76 : decode cX5_drawCentury 76 = .ok (.getfield 68, 3) := by decide +kernel
theorem dX5_drawCentury_79 : decode cX5_drawCentury 79 = .ok (.i2l, 1) := by decide +kernel
theorem dX5_drawCentury_80 : decode cX5_drawCentury 80 = .ok (.lrem, 1) := by decide +kernel
theorem dX5_drawCentury_81 : decode cX5_drawCentury 81 = .ok (.l2i, 1) := by decide +kernel
theorem dX5_drawCentury_82 : decode cX5_drawCentury 82 = .ok (.ishl, 1) := by decide +kernel
theorem dX5_drawCentury_83 : decode cX5_drawCentury 83 = .ok (.ixor, 1) := by decide +kernel
theorem dX5_drawCentury_84 : decode cX5_drawCentury 84 = .ok (.putfield 32, 3) := by decide +kernel
theorem dX5_drawCentury_87 : decode cX5_drawCentury 87 = .ok (.aload_n 0, 1) := by decide +kernel
theorem dX5_drawCentury_88 : decode cX5_drawCentury 88 = .ok (.getfield 12, 3) := by decide +kernel
theorem dX5_drawCentury_91 : decode cX5_drawCentury 91 = .ok (.lload 4, 2) := by decide +kernel
theorem dX5_drawCentury_93 : decode cX5_drawCentury 93 = .ok (.ldc2_w 115, 3) := by decide +kernel
theorem dX5_drawCentury_96 : decode cX5_drawCentury 96 = .ok (.lrem, 1) := by decide +kernel
theorem dX5_drawCentury_97 : decode cX5_drawCentury 97 = .ok (.l2i, 1) := by decide +kernel
theorem dX5_drawCentury_98 : decode cX5_drawCentury 98 = .ok (.invokevirtual 117, 3) := by decide +kernel
theorem dX5_drawCentury_101 : decode cX5_drawCentury 101 = .ok (.istore 7, 2) := by decide +kernel
theorem dX5_drawCentury_103 : decode cX5_drawCentury 103 = .ok (.iload 7, 2) := by decide +kernel
theorem dX5_drawCentury_105 : decode cX5_drawCentury 105 = .ok (.ifCond .lt 22, 3) := by decide +kernel
theorem dX5_drawCentury_108 : decode cX5_drawCentury 108 = .ok (.aload_n 0, 1) := by decide +kernel
theorem dX5_drawCentury_109 : decode cX5_drawCentury 109 = .ok (.getfield 12, 3) := by decide +kernel
theorem dX5_drawCentury_112 : decode cX5_drawCentury 112 = .ok (.getfield 39, 3) := by decide +kernel
theorem dX5_drawCentury_115 : decode cX5_drawCentury 115 = .ok (.iload 7, 2) := by decide +kernel
theorem dX5_drawCentury_117 : decode cX5_drawCentury 117 = .ok (.aaload, 1) := by decide +kernel
theorem dX5_drawCentury_118 : decode cX5_drawCentury 118 = .ok (.dup, 1) := by decide +kernel
theorem dX5_drawCentury_119 : decode cX5_drawCentury 119 = .ok (.getfield 120, 3) := by decide +kernel
theorem dX5_drawCentury_122 : decode cX5_drawCentury 122 = .ok (.iconst 1, 1) := by decide +kernel
theorem dX5_drawCentury_123 : decode cX5_drawCentury 123 = .ok (.iadd, 1) := by decide +kernel
theorem dX5_drawCentury_124 : decode cX5_drawCentury 124 = .ok (.putfield 120, 3) := by decide +kernel
theorem dX5_drawCentury_127 : decode cX5_drawCentury 127 = .ok (.iinc 6 1, 3) := by decide +kernel
theorem dX5_drawCentury_130 : decode cX5_drawCentury 130 = .ok (.goto (-108), 3) := by decide +kernel
theorem dX5_drawCentury_133 : decode cX5_drawCentury 133 = .ok (.return_, 1) := by decide +kernel
theorem dX6_init_0 : decode cX6_init 0 = .ok (.aload_n 0, 1) := by decide +kernel
theorem dX6_init_1 : decode cX6_init 1 = .ok (.invokespecial 3, 3) := by decide +kernel
theorem dX6_init_4 : decode cX6_init 4 = .ok (.aload_n 0, 1) := by decide +kernel
theorem dX6_init_5 : decode cX6_init 5 = .ok (.bipush 100, 2) := by decide +kernel
theorem dX6_init_7 : decode cX6_init 7 = .ok (.newarray .int, 2) := by decide +kernel
theorem dX6_init_9 : decode cX6_init 9 = .ok (.putfield 9, 3) := by decide +kernel
theorem dX6_init_12 : decode cX6_init 12 = .ok (.return_, 1) := by decide +kernel
theorem dX6_append_0 : decode cX6_append 0 = .ok (.aload_n 0, 1) := by decide +kernel
theorem dX6_append_1 : decode cX6_append 1 = .ok (.getfield 15, 3) := by decide +kernel
theorem dX6_append_4 : decode cX6_append 4 = .ok (.bipush 100, 2) := by decide +kernel
theorem dX6_append_6 : decode cX6_append 6 = .ok (.if_icmp .lt 5, 3) := by decide +kernel
theorem dX6_append_9 : decode cX6_append 9 = .ok (.iconst 0, 1) := by decide +kernel
theorem dX6_append_10 : decode cX6_append 10 = .ok (.ireturn, 1) := by decide +kernel
theorem dX6_append_11 : decode cX6_append 11 = .ok (.aload_n 0, 1) := by decide +kernel
theorem dX6_append_12 : decode cX6_append 12 = .ok (.getfield 9, 3) := by decide +kernel
theorem dX6_append_15 : decode cX6_append 15 = .ok (.aload_n 0, 1) := by decide +kernel
theorem dX6_append_16 : decode cX6_append 16 = .ok (.getfield 15, 3) := by decide +kernel
theorem dX6_append_19 : decode cX6_append 19 = .ok (.iload_n 1, 1) := by decide +kernel
theorem dX6_append_20 : decode cX6_append 20 = .ok (.iastore, 1) := by decide +kernel
theorem dX6_append_21 : decode cX6_append 21 = .ok (.aload_n 0, 1) := by decide +kernel
theorem dX6_append_22 : decode cX6_append 22 = .ok (.dup, 1) := by decide +kernel
theorem dX6_append_23 : decode cX6_append 23 = .ok (.getfield 15, 3) := by decide +kernel
theorem dX6_append_26 : decode cX6_append 26 = .ok (.iconst 1, 1) := by decide +kernel
theorem dX6_append_27 : decode cX6_append 27 = .ok (.iadd, 1) := by decide +kernel
theorem dX6_append_28 : decode cX6_append 28 = .ok (.putfield 15, 3) := by decide +kernel
theorem dX6_append_31 : decode cX6_append 31 = .ok (.iconst 1, 1) := by decide +kernel
theorem dX6_append_32 : decode cX6_append 32 = .ok (.ireturn, 1) := by decide +kernel
theorem dX6_readInto_0 : decode cX6_readInto 0 = .ok (.aload_n 0, 1) := by decide +kernel
theorem dX6_readInto_1 : decode cX6_readInto 1 = .ok (.iconst 0, 1) := by decide +kernel
theorem dX6_readInto_2 : decode cX6_readInto 2 = .ok (.putfield 19, 3) := by decide +kernel
theorem dX6_readInto_5 : decode cX6_readInto 5 = .ok (.aload_n 0, 1) := by decide +kernel
theorem dX6_readInto_6 : decode cX6_readInto 6 = .ok (.iconst 0, 1) := by decide +kernel
theorem dX6_readInto_7 : decode cX6_readInto 7 = .ok (.putfield 22, 3) := by decide +kernel
theorem dX6_readInto_10 : decode cX6_readInto 10 = .ok (.aload_n 0, 1) := by decide +kernel
theorem dX6_readInto_11 : decode cX6_readInto 11 = .ok (.iconst 0, 1) := by decide +kernel
theorem dX6_readInto_12 : decode cX6_readInto 12 = .ok (.putfield 25, 3) := by decide +kernel
theorem dX6_readInto_15 : decode cX6_readInto 15 = .ok (.aload_n 1, 1) := by decide +kernel
theorem dX6_readInto_16 : decode cX6_readInto 16 = .ok (.invokevirtual 28, 3) := by decide +kernel
theorem dX6_readInto_19 : decode cX6_readInto 19 = .ok (.aload_n 0, 1) := by decide +kernel
theorem dX6_readInto_20 : decode cX6_readInto 20 = .ok (.aload_n 1, 1) := by decide +kernel
theorem dX6_readInto_21 : decode cX6_readInto 21 = .ok (.invokevirtual 33, 3) := by decide +kernel
theorem dX6_readInto_24 : decode cX6_readInto 24 = .ok (.istore_n 2, 1) := by decide +kernel
theorem dX6_readInto_25 : decode cX6_readInto 25 = .ok (.iconst 0, 1) := by decide +kernel
theorem dX6_readInto_26 : decode cX6_readInto 26 = .ok (.istore_n 3, 1) := by decide +kernel
theorem dX6_readInto_27 : decode cX6_readInto 27 = .ok (.iload_n 3, 1) := by decide +kernel
theorem dX6_readInto_28 : decode cX6_readInto 28 = .ok (.bipush 100, 2) := by decide +kernel
theorem dX6_readInto_30 : decode cX6_readInto 30 = .ok (.if_icmp .ge 30, 3) := by decide +kernel
theorem dX6_readInto_33 : decode cX6_readInto 33 = .ok (.iload_n 2, 1) := by decide +kernel
theorem dX6_readInto_34 : decode cX6_readInto 34 = .ok (.ifCond .eq 26, 3) := by decide +kernel
theorem dX6_readInto_37 : decode cX6_readInto 37 = .ok (.aload_n 0, 1) := by decide +kernel
theorem dX6_readInto_38 : decode cX6_readInto 38 = .ok (.getfield 19, 3) := by decide +kernel
theorem dX6_readInto_41 : decode cX6_readInto 41 = .ok (.aload_n 0, 1) := by decide +kernel
theorem dX6_readInto_42 : decode cX6_readInto 42 = .ok (.getfield 15, 3) := by decide +kernel
theorem dX6_readInto_45 : decode cX6_readInto 45 = .ok (.if_icmp .ge 15, 3) := by decide +kernel
theorem dX6_readInto_48 : decode cX6_readInto 48 = .ok (.aload_n 0, 1) := by decide +kernel
theorem dX6_readInto_49 : decode cX6_readInto 49 = .ok (.aload_n 1, 1) := by decide +kernel
theorem dX6_readInto_50 : decode cX6_readInto 50 = .ok (.invokevirtual 37, 3) := by decide +kernel
theorem dX6_readInto_53 : decode cX6_readInto 53 = .ok (.istore_n 2, 1) := by decide +kernel
theorem dX6_readInto_54 : decode cX6_readInto 54 = .ok (.iinc 3 1, 3) := by decide +kernel
theorem dX6_readInto_57 : decode cX6_readInto 57 = .ok (.goto (-30), 3) := by decide +kernel
theorem dX6_readInto_60 : decode cX6_readInto 60 = .ok (.aload_n 1, 1) := by decide +kernel
theorem dX6_readInto_61 : decode cX6_readInto 61 = .ok (.iload_n 2, 1) := by decide +kernel
theorem dX6_readInto_62 : decode cX6_readInto 62 = .ok (.putfield 40, 3) := by decide +kernel
theorem dX6_readInto_65 : decode cX6_readInto 65 = .ok (.iload_n 2, 1) := by decide +kernel
theorem dX6_readInto_66 : decode cX6_readInto 66 = .ok (.ireturn, 1) := by decide +kernel
theorem dX6_readLaw_0 : decode cX6_readLaw 0 = .ok (.aload_n 0, 1) := by decide +kernel
theorem dX6_readLaw_1 : decode cX6_readLaw 1 = .ok (.bipush 99, 2) := by decide +kernel
theorem dX6_readLaw_3 : decode cX6_readLaw 3 = .ok (.invokevirtual 44, 3) := by decide +kernel
theorem dX6_readLaw_6 : decode cX6_readLaw 6 = .ok (.istore_n 2, 1) := by decide +kernel
theorem dX6_readLaw_7 : decode cX6_readLaw 7 = .ok (.iconst 0, 1) := by decide +kernel
theorem dX6_readLaw_8 : decode cX6_readLaw 8 = .ok (.istore_n 3, 1) := by decide +kernel
theorem dX6_readLaw_9 : decode cX6_readLaw 9 = .ok (.iload_n 3, 1) := by decide +kernel
theorem dX6_readLaw_10 : decode cX6_readLaw 10 = .ok (.getstatic 48, 3) := by decide +kernel
theorem dX6_readLaw_13 : decode cX6_readLaw 13 = .ok (.arraylength, 1) := by decide +kernel
theorem dX6_readLaw_14 : decode cX6_readLaw 14 = .ok (.if_icmp .ge 71, 3) := by decide +kernel
theorem dX6_readLaw_17 : decode cX6_readLaw 17 = .ok (.iload_n 2, 1) := by decide +kernel
theorem dX6_readLaw_18 : decode cX6_readLaw 18 = .ok (.ifCond .eq 67, 3) := by decide +kernel
theorem dX6_readLaw_21 : decode cX6_readLaw 21 = .ok (.aload_n 0, 1) := by decide +kernel
theorem dX6_readLaw_22 : decode cX6_readLaw 22 = .ok (.getstatic 48, 3) := by decide +kernel
theorem dX6_readLaw_25 : decode cX6_readLaw 25 = .ok (.iload_n 3, 1) := by decide +kernel
theorem dX6_readLaw_26 : decode cX6_readLaw 26 = .ok (.iaload, 1) := by decide +kernel
theorem dX6_readLaw_27 : decode cX6_readLaw 27 = .ok (.getstatic 51, 3) := by decide +kernel
theorem dX6_readLaw_30 : decode cX6_readLaw 30 = .ok (.iload_n 3, 1) := by decide +kernel
theorem dX6_readLaw_31 : decode cX6_readLaw 31 = .ok (.iaload, 1) := by decide +kernel
theorem dX6_readLaw_32 : decode cX6_readLaw 32 = .ok (.invokevirtual 54, 3) := by decide +kernel
theorem dX6_readLaw_35 : decode cX6_readLaw 35 = .ok (.istore 4, 2) := by decide +kernel
theorem dX6_readLaw_37 : decode cX6_readLaw 37 = .ok (.aload_n 1, 1) := by decide +kernel
theorem dX6_readLaw_38 : decode cX6_readLaw 38 = .ok (.iload_n 3, 1) := by decide +kernel
theorem dX6_readLaw_39 : decode cX6_readLaw 39 = .ok (.iload 4, 2) := by decide +kernel
theorem dX6_readLaw_41 : decode cX6_readLaw 41 = .ok (.invokevirtual 58, 3) := by decide +kernel
theorem dX6_readLaw_44 : decode cX6_readLaw 44 = .ok (.iload 4, 2) := by decide +kernel
theorem dX6_readLaw_46 : decode cX6_readLaw 46 = .ok (.ifCond .lt 31, 3) := by decide +kernel
theorem dX6_readLaw_49 : decode cX6_readLaw 49 = .ok (.aload_n 0, 1) := by decide +kernel
theorem dX6_readLaw_50 : decode cX6_readLaw 50 = .ok (.iload_n 3, 1) := by decide +kernel
theorem dX6_readLaw_51 : decode cX6_readLaw 51 = .ok (.getstatic 48, 3) := by decide +kernel
theorem dX6_readLaw_54 : decode cX6_readLaw 54 = .ok (.arraylength, 1) := by decide +kernel
theorem dX6_readLaw_55 : decode cX6_readLaw 55 = .ok (.iconst 1, 1) := by decide +kernel
theorem dX6_readLaw_56 : decode cX6_readLaw 56 = .ok (.isub, 1) := by decide +kernel
theorem dX6_readLaw_57 : decode cX6_readLaw 57 = .ok (.if_icmp .ge 8, 3) := by decide +kernel
theorem dX6_readLaw_60 : decode cX6_readLaw 60 = .ok (.bipush 44, 2) := by decide +kernel
theorem dX6_readLaw_62 : decode cX6_readLaw 62 = .ok (.goto 5, 3) := by decide +kernel
theorem dX6_readLaw_65 : decode cX6_readLaw 65 = .ok (.bipush 59, 2) := by decide +kernel
theorem dX6_readLaw_67 : decode cX6_readLaw 67 = .ok (.invokevirtual 44, 3) := by decide +kernel
theorem dX6_readLaw_70 : decode cX6_readLaw 70 = .ok (.ifCond .eq 7, 3) := by decide +kernel
theorem dX6_readLaw_73 : decode cX6_readLaw 73 = .ok (.iconst 1, 1) := by decide +kernel
theorem dX6_readLaw_74 : decode cX6_readLaw 74 = .ok (.goto 4, 3) := by decide +kernel
theorem dX6_readLaw_77 : decode cX6_readLaw 77 = .ok (.iconst 0, 1) := by decide +kernel
theorem dX6_readLaw_78 : decode cX6_readLaw 78 = .ok (.istore_n 2, 1) := by decide +kernel
theorem dX6_readLaw_79 : decode cX6_readLaw 79 = .ok (.iinc 3 1, 3) := by decide +kernel
theorem dX6_readLaw_82 : decode cX6_readLaw 82 = .ok (.goto (-73), 3) := by decide +kernel
theorem dX6_readLaw_85 : decode cX6_readLaw 85 = .ok (.iload_n 2, 1) := by decide +kernel
theorem dX6_readLaw_86 : decode cX6_readLaw 86 = .ok (.ireturn, 1) := by decide +kernel
theorem dX6_readHouse_0 : decode cX6_readHouse 0 = .ok (.aload_n 0, 1) := by decide +kernel
theorem dX6_readHouse_1 : decode cX6_readHouse 1 = .ok (.aload_n 0, 1) := by decide +kernel
theorem dX6_readHouse_2 : decode cX6_readHouse 2 = .ok (.getfield 19, 3) := by decide +kernel
theorem dX6_readHouse_5 : decode cX6_readHouse 5 = .ok (.invokevirtual 62, 3) := by decide +kernel
theorem dX6_readHouse_8 : decode cX6_readHouse 8 = .ok (.invokestatic 66, 3) := by decide +kernel
theorem dX6_readHouse_11 : decode cX6_readHouse 11 = .ok (.istore_n 2, 1) := by decide +kernel
theorem dX6_readHouse_12 : decode cX6_readHouse 12 = .ok (.iload_n 2, 1) := by decide +kernel
theorem dX6_readHouse_13 : decode cX6_readHouse 13 = .ok (.ifCond .ne 13, 3) := by decide +kernel
theorem dX6_readHouse_16 : decode cX6_readHouse 16 = .ok (.aload_n 0, 1) := by decide +kernel
theorem dX6_readHouse_17 : decode cX6_readHouse 17 = .ok (.iconst 1, 1) := by decide +kernel
theorem dX6_readHouse_18 : decode cX6_readHouse 18 = .ok (.aload_n 0, 1) := by decide +kernel
theorem dX6_readHouse_19 : decode cX6_readHouse 19 = .ok (.getfield 19, 3) := by decide +kernel
theorem dX6_readHouse_22 : decode cX6_readHouse 22 = .ok (.invokevirtual 69, 3) := by decide +kernel
theorem dX6_readHouse_25 : decode cX6_readHouse 25 = .ok (.ireturn, 1) := by decide +kernel
theorem dX6_readHouse_26 : decode cX6_readHouse 26 = .ok (.aload_n 1, 1) := by decide +kernel
theorem dX6_readHouse_27 : decode cX6_readHouse 27 = .ok (.getfield 73, 3) := by decide +kernel
theorem dX6_readHouse_30 : decode cX6_readHouse 30 = .ok (.bipush 6, 2) := by decide +kernel
theorem dX6_readHouse_32 : decode cX6_readHouse 32 = .ok (.if_icmp .lt 13, 3) := by decide +kernel
theorem dX6_readHouse_35 : decode cX6_readHouse 35 = .ok (.aload_n 0, 1) := by decide +kernel
theorem dX6_readHouse_36 : decode cX6_readHouse 36 = .ok (.iconst 3, 1) := by decide +kernel
theorem dX6_readHouse_37 : decode cX6_readHouse 37 = .ok (.aload_n 0, 1) := by decide +kernel
theorem dX6_readHouse_38 : decode cX6_readHouse 38 = .ok (.getfield 19, 3) := by decide +kernel
theorem dX6_readHouse_41 : decode cX6_readHouse 41 = .ok (.invokevirtual 69, 3) := by decide +kernel
theorem dX6_readHouse_44 : decode cX6_readHouse 44 = .ok (.ireturn, 1) := by decide +kernel
theorem dX6_readHouse_45 : decode cX6_readHouse 45 = .ok (.aload_n 0, 1) := by decide +kernel
theorem dX6_readHouse_46 : decode cX6_readHouse 46 = .ok (.dup, 1) := by decide +kernel
theorem dX6_readHouse_47 : decode cX6_readHouse 47 = .ok (.getfield 19, 3) := by decide +kernel
theorem dX6_readHouse_50 : decode cX6_readHouse 50 = .ok (.iconst 1, 1) := by decide +kernel
theorem dX6_readHouse_51 : decode cX6_readHouse 51 = .ok (.iadd, 1) := by decide +kernel
theorem dX6_readHouse_52 : decode cX6_readHouse 52 = .ok (.putfield 19, 3) := by decide +kernel
theorem dX6_readHouse_55 : decode cX6_readHouse 55 = .ok (.aload_n 0, 1) := by decide +kernel
theorem dX6_readHouse_56 : decode cX6_readHouse 56 = .ok (.iconst 1, 1) := by decide +kernel
theorem dX6_readHouse_57 : decode cX6_readHouse 57 = .ok (.aload_n 1, 1) := by decide +kernel
theorem dX6_readHouse_58 : decode cX6_readHouse 58 = .ok (.getfield 76, 3) := by decide +kernel
theorem dX6_readHouse_61 : decode cX6_readHouse 61 = .ok (.invokevirtual 54, 3) := by decide +kernel
theorem dX6_readHouse_64 : decode cX6_readHouse 64 = .ok (.istore_n 3, 1) := by decide +kernel
theorem dX6_readHouse_65 : decode cX6_readHouse 65 = .ok (.iload_n 3, 1) := by decide +kernel
theorem dX6_readHouse_66 : decode cX6_readHouse 66 = .ok (.ifCond .lt 12, 3) := by decide +kernel
theorem dX6_readHouse_69 : decode cX6_readHouse 69 = .ok (.aload_n 0, 1) := by decide +kernel
theorem dX6_readHouse_70 : decode cX6_readHouse 70 = .ok (.bipush 44, 2) := by decide +kernel
theorem dX6_readHouse_72 : decode cX6_readHouse 72 = .ok (.invokevirtual 44, 3) := by decide +kernel
theorem dX6_readHouse_75 : decode cX6_readHouse 75 = .ok (.ifCond .ne 5, 3) := by decide +kernel
theorem dX6_readHouse_78 : decode cX6_readHouse 78 = .ok (.iconst 0, 1) := by decide +kernel
theorem dX6_readHouse_79 : decode cX6_readHouse 79 = .ok (.ireturn, 1) := by decide +kernel
theorem dX6_readHouse_80 : decode cX6_readHouse 80 = .ok (.aload_n 0, 1) := by decide +kernel
theorem dX6_readHouse_81 : decode cX6_readHouse 81 = .ok (.getfield 19, 3) := by decide +kernel
theorem dX6_readHouse_84 : decode cX6_readHouse 84 = .ok (.istore 4, 2) := by decide +kernel
theorem dX6_readHouse_86 : decode cX6_readHouse 86 = .ok (.aload_n 0, 1) := by decide +kernel
theorem dX6_readHouse_87 : decode cX6_readHouse 87 = .ok (.iconst 0, 1) := by decide +kernel
theorem dX6_readHouse_88 : decode cX6_readHouse 88 = .ok (.bipush 6, 2) := by decide +kernel
theorem dX6_readHouse_90 : decode cX6_readHouse 90 = .ok (.invokevirtual 54, 3) := by decide +kernel
theorem dX6_readHouse_93 : decode cX6_readHouse 93 = .ok (.istore 5, 2) := by decide +kernel
theorem dX6_readHouse_95 : decode cX6_readHouse 95 = .ok (.iload 5, 2) := by decide +kernel
theorem dX6_readHouse_97 : decode cX6_readHouse 97 = .ok (.ifCond .ge 5, 3) := by decide +kernel
theorem dX6_readHouse_100 : decode cX6_readHouse 100 = .ok (.iconst 0, 1) := by decide +kernel
theorem dX6_readHouse_101 : decode cX6_readHouse 101 = .ok (.ireturn, 1) := by decide +kernel
theorem dX6_readHouse_102 : decode cX6_readHouse 102 = .ok (.aload_n 1, 1) := by decide +kernel
theorem dX6_readHouse_103 : decode cX6_readHouse 103 = .ok (.iload_n 3, 1) := by decide +kernel
theorem dX6_readHouse_104 : decode cX6_readHouse 104 = .ok (.iload 5, 2) := by decide +kernel
theorem dX6_readHouse_106 : decode cX6_readHouse 106 = .ok (.invokevirtual 79, 3) := by decide +kernel
theorem dX6_readHouse_109 : decode cX6_readHouse 109 = .ok (.ifCond .lt 11, 3) := by decide +kernel
theorem dX6_readHouse_112 : decode cX6_readHouse 112 = .ok (.aload_n 0, 1) := by decide +kernel
theorem dX6_readHouse_113 : decode cX6_readHouse 113 = .ok (.iconst 2, 1) := by decide +kernel
theorem dX6_readHouse_114 : decode cX6_readHouse 114 = .ok (.iload 4, 2) := by decide +kernel
theorem dX6_readHouse_116 : decode cX6_readHouse 116 = .ok (.invokevirtual 69, 3) := by decide +kernel
theorem dX6_readHouse_119 : decode cX6_readHouse 119 = .ok (.ireturn, 1) := by decide +kernel
theorem dX6_readHouse_120 : decode cX6_readHouse 120 = .ok (.aload_n 0, 1) := by decide +kernel
theorem dX6_readHouse_121 : decode cX6_readHouse 121 = .ok (.bipush 44, 2) := by decide +kernel
theorem dX6_readHouse_123 : decode cX6_readHouse 123 = .ok (.invokevirtual 44, 3) := by decide +kernel
theorem dX6_readHouse_126 : decode cX6_readHouse 126 = .ok (.ifCond .ne 5, 3) := by decide +kernel
theorem dX6_readHouse_129 : decode cX6_readHouse 129 = .ok (.iconst 0, 1) := by decide +kernel
theorem dX6_readHouse_130 : decode cX6_readHouse 130 = .ok (.ireturn, 1) := by decide +kernel
theorem dX6_readHouse_131 : decode cX6_readHouse 131 = .ok (.aload_n 0, 1) := by decide +kernel
theorem dX6_readHouse_132 : decode cX6_readHouse 132 = .ok (.iconst 0, 1) := by decide +kernel
theorem dX6_readHouse_133 : decode cX6_readHouse 133 = .ok (.iconst 1, 1) := by decide +kernel
theorem dX6_readHouse_134 : decode cX6_readHouse 134 = .ok (.invokevirtual 54, 3) := by decide +kernel
theorem dX6_readHouse_137 : decode cX6_readHouse 137 = .ok (.istore 6, 2) := by decide +kernel
theorem dX6_readHouse_139 : decode cX6_readHouse 139 = .ok (.iload 6, 2) := by decide +kernel
theorem dX6_readHouse_141 : decode cX6_readHouse 141 = .ok (.ifCond .lt 12, 3) := by decide +kernel
theorem dX6_readHouse_144 : decode cX6_readHouse 144 = .ok (.aload_n 0, 1) := by decide +kernel
theorem dX6_readHouse_145 : decode cX6_readHouse 145 = .ok (.bipush 59, 2) := by decide +kernel
theorem dX6_readHouse_147 : decode cX6_readHouse 147 = .ok (.invokevirtual 44, 3) := by decide +kernel
theorem dX6_readHouse_150 : decode cX6_readHouse 150 = .ok (.ifCond .ne 5, 3) := by decide +kernel
theorem dX6_readHouse_153 : decode cX6_readHouse 153 = .ok (.iconst 0, 1) := by decide +kernel
theorem dX6_readHouse_154 : decode cX6_readHouse 154 = .ok (.ireturn, 1) := by decide +kernel
theorem dX6_readHouse_155 : decode cX6_readHouse 155 = .ok (.aload_n 1, 1) := by decide +kernel
theorem dX6_readHouse_156 : decode cX6_readHouse 156 = .ok (.iload_n 2, 1) := by decide +kernel
theorem dX6_readHouse_157 : decode cX6_readHouse 157 = .ok (.iload_n 3, 1) := by decide +kernel
theorem dX6_readHouse_158 : decode cX6_readHouse 158 = .ok (.iload 5, 2) := by decide +kernel
theorem dX6_readHouse_160 : decode cX6_readHouse 160 = .ok (.iload 6, 2) := by decide +kernel
theorem dX6_readHouse_162 : decode cX6_readHouse 162 = .ok (.invokevirtual 82, 3) := by decide +kernel
theorem dX6_readHouse_165 : decode cX6_readHouse 165 = .ok (.iconst 1, 1) := by decide +kernel
theorem dX6_readHouse_166 : decode cX6_readHouse 166 = .ok (.ireturn, 1) := by decide +kernel
theorem dX6_readSign_0 : decode cX6_readSign 0 = .ok (.aload_n 0, 1) := by decide +kernel
theorem dX6_readSign_1 : decode cX6_readSign 1 = .ok (.aload_n 0, 1) := by decide +kernel
theorem dX6_readSign_2 : decode cX6_readSign 2 = .ok (.getfield 19, 3) := by decide +kernel
theorem dX6_readSign_5 : decode cX6_readSign 5 = .ok (.invokevirtual 62, 3) := by decide +kernel
theorem dX6_readSign_8 : decode cX6_readSign 8 = .ok (.iload_n 1, 1) := by decide +kernel
theorem dX6_readSign_9 : decode cX6_readSign 9 = .ok (.if_icmp .eq 13, 3) := by decide +kernel
theorem dX6_readSign_12 : decode cX6_readSign 12 = .ok (.aload_n 0, 1) := by decide +kernel
theorem dX6_readSign_13 : decode cX6_readSign 13 = .ok (.iconst 1, 1) := by decide +kernel
theorem dX6_readSign_14 : decode cX6_readSign 14 = .ok (.aload_n 0, 1) := by decide +kernel
theorem dX6_readSign_15 : decode cX6_readSign 15 = .ok (.getfield 19, 3) := by decide +kernel
theorem dX6_readSign_18 : decode cX6_readSign 18 = .ok (.invokevirtual 69, 3) := by decide +kernel
theorem dX6_readSign_21 : decode cX6_readSign 21 = .ok (.ireturn, 1) := by decide +kernel
theorem dX6_readSign_22 : decode cX6_readSign 22 = .ok (.aload_n 0, 1) := by decide +kernel
theorem dX6_readSign_23 : decode cX6_readSign 23 = .ok (.dup, 1) := by decide +kernel
theorem dX6_readSign_24 : decode cX6_readSign 24 = .ok (.getfield 19, 3) := by decide +kernel
theorem dX6_readSign_27 : decode cX6_readSign 27 = .ok (.iconst 1, 1) := by decide +kernel
theorem dX6_readSign_28 : decode cX6_readSign 28 = .ok (.iadd, 1) := by decide +kernel
theorem dX6_readSign_29 : decode cX6_readSign 29 = .ok (.putfield 19, 3) := by decide +kernel
theorem dX6_readSign_32 : decode cX6_readSign 32 = .ok (.iconst 1, 1) := by decide +kernel
theorem dX6_readSign_33 : decode cX6_readSign 33 = .ok (.ireturn, 1) := by decide +kernel
theorem dX6_readNumber_0 : decode cX6_readNumber 0 = .ok (.iconst 0, 1) := by decide +kernel
theorem dX6_readNumber_1 : decode cX6_readNumber 1 = .ok (.istore_n 3, 1) := by decide +kernel
theorem dX6_readNumber_2 : decode cX6_readNumber 2 = .ok (.iconst 0, 1) := by decide +kernel
theorem dX6_readNumber_3 : decode cX6_readNumber 3 = .ok (.istore 4, 2) := by decide +kernel
theorem dX6_readNumber_5 : decode cX6_readNumber 5 = .ok (.iload_n 3, 1) := by decide +kernel
theorem dX6_readNumber_6 : decode cX6_readNumber 6 = .ok (.iconst 3, 1) := by decide +kernel
theorem dX6_readNumber_7 : decode cX6_readNumber 7 = .ok (.if_icmp .ge 50, 3) := by decide +kernel
theorem dX6_readNumber_10 : decode cX6_readNumber 10 = .ok (.aload_n 0, 1) := by decide +kernel
theorem dX6_readNumber_11 : decode cX6_readNumber 11 = .ok (.aload_n 0, 1) := by decide +kernel
theorem dX6_readNumber_12 : decode cX6_readNumber 12 = .ok (.getfield 19, 3) := by decide +kernel
theorem dX6_readNumber_15 : decode cX6_readNumber 15 = .ok (.iload_n 3, 1) := by decide +kernel
theorem dX6_readNumber_16 : decode cX6_readNumber 16 = .ok (.iadd, 1) := by decide +kernel
theorem dX6_readNumber_17 : decode cX6_readNumber 17 = .ok (.invokevirtual 62, 3) := by decide +kernel
theorem dX6_readNumber_20 : decode cX6_readNumber 20 = .ok (.bipush 48, 2) := by decide +kernel
theorem dX6_readNumber_22 : decode cX6_readNumber 22 = .ok (.bipush 57, 2) := by decide +kernel
theorem dX6_readNumber_24 : decode cX6_readNumber 24 = .ok (.invokestatic 86, 3) := by decide +kernel
theorem dX6_readNumber_27 : decode cX6_readNumber 27 = .ok (.ifCond .eq 30, 3) := by decide +kernel
theorem dX6_readNumber_30 : decode cX6_readNumber 30 = .ok (.bipush 10, 2) := by decide +kernel
theorem dX6_readNumber_32 : decode cX6_readNumber 32 = .ok (.iload 4, 2) := by decide +kernel
theorem dX6_readNumber_34 : decode cX6_readNumber 34 = .ok (.imul, 1) := by decide +kernel
theorem dX6_readNumber_35 : decode cX6_readNumber 35 = .ok (.aload_n 0, 1) := by decide +kernel
theorem dX6_readNumber_36 : decode cX6_readNumber 36 = .ok (.aload_n 0, 1) := by decide +kernel
theorem dX6_readNumber_37 : decode cX6_readNumber 37 = .ok (.getfield 19, 3) := by decide +kernel
theorem dX6_readNumber_40 : decode cX6_readNumber 40 = .ok (.iload_n 3, 1) := by decide +kernel
theorem dX6_readNumber_41 : decode cX6_readNumber 41 = .ok (.iadd, 1) := by decide +kernel
theorem dX6_readNumber_42 : decode cX6_readNumber 42 = .ok (.invokevirtual 62, 3) := by decide +kernel
theorem dX6_readNumber_45 : decode cX6_readNumber 45 = .ok (.iadd, 1) := by decide +kernel
theorem dX6_readNumber_46 : decode cX6_readNumber 46 = .ok (.bipush 48, 2) := by decide +kernel
theorem dX6_readNumber_48 : decode cX6_readNumber 48 = .ok (.isub, 1) := by decide +kernel
theorem dX6_readNumber_49 : decode cX6_readNumber 49 = .ok (.istore 4, 2) := by decide +kernel
theorem dX6_readNumber_51 : decode cX6_readNumber 51 = .ok (.iinc 3 1, 3) := by decide +kernel
theorem dX6_readNumber_54 : decode cX6_readNumber 54 = .ok (.goto (-49), 3) := by decide +kernel
theorem dX6_readNumber_57 : decode cX6_readNumber 57 = .ok (.iload_n 3, 1) := by decide +kernel
theorem dX6_readNumber_58 : decode cX6_readNumber 58 = .ok (.iconst 1, 1) := by decide +kernel
theorem dX6_readNumber_59 : decode cX6_readNumber 59 = .ok (.if_icmp .lt 8, 3) := by decide +kernel
theorem dX6_readNumber_62 : decode cX6_readNumber 62 = .ok (.iload_n 3, 1) := by decide +kernel
theorem dX6_readNumber_63 : decode cX6_readNumber 63 = .ok (.iconst 2, 1) := by decide +kernel
theorem dX6_readNumber_64 : decode cX6_readNumber 64 = .ok (.if_icmp .le 15, 3) := by decide +kernel
theorem dX6_readNumber_67 : decode cX6_readNumber 67 = .ok (.aload_n 0, 1) := by decide +kernel
theorem dX6_readNumber_68 : decode cX6_readNumber 68 = .ok (.iconst 1, 1) := by decide +kernel
theorem dX6_readNumber_69 : decode cX6_readNumber 69 = .ok (.aload_n 0, 1) := by decide +kernel
theorem dX6_readNumber_70 : decode cX6_readNumber 70 = .ok (.getfield 19, 3) := by decide +kernel
theorem dX6_readNumber_73 : decode cX6_readNumber 73 = .ok (.invokevirtual 69, 3) := by decide +kernel
theorem dX6_readNumber_76 : decode cX6_readNumber 76 = .ok (.pop, 1) := by decide +kernel
theorem dX6_readNumber_77 : decode cX6_readNumber 77 = .ok (.iconst (-1), 1) := by decide +kernel
theorem dX6_readNumber_78 : decode cX6_readNumber 78 = .ok (.ireturn, 1) := by decide +kernel
theorem dX6_readNumber_79 : decode cX6_readNumber 79 = .ok (.iload 4, 2) := by decide +kernel
theorem dX6_readNumber_81 : decode cX6_readNumber 81 = .ok (.iload_n 1, 1) := by decide +kernel
theorem dX6_readNumber_82 : decode cX6_readNumber 82 = .ok (.iload_n 2, 1) := by decide +kernel
theorem dX6_readNumber_83 : decode cX6_readNumber 83 = .ok (.invokestatic 86, 3) := by decide +kernel
theorem dX6_readNumber_86 : decode cX6_readNumber 86 = .ok (.ifCond .ne 15, 3) := by decide +kernel
theorem dX6_readNumber_89 : decode cX6_readNumber 89 = .ok (.aload_n 0, 1) := by decide +kernel
theorem dX6_readNumber_90 : decode cX6_readNumber 90 = .ok (.iconst 2, 1) := by decide +kernel
theorem dX6_readNumber_91 : decode cX6_readNumber 91 = .ok (.aload_n 0, 1) := by decide +kernel
theorem dX6_readNumber_92 : decode cX6_readNumber 92 = .ok (.getfield 19, 3) := by decide +kernel
theorem dX6_readNumber_95 : decode cX6_readNumber 95 = .ok (.invokevirtual 69, 3) := by decide +kernel
theorem dX6_readNumber_98 : decode cX6_readNumber 98 = .ok (.pop, 1) := by decide +kernel
theorem dX6_readNumber_99 : decode cX6_readNumber 99 = .ok (.iconst (-1), 1) := by decide +kernel
theorem dX6_readNumber_100 : decode cX6_readNumber 100 = .ok (.ireturn, 1) := by decide +kernel
theorem dX6_readNumber_101 : decode cX6_readNumber 101 = .ok (.aload_n 0, 1) := by decide +kernel
theorem dX6_readNumber_102 : decode cX6_readNumber 102 = .ok (.dup, 1) := by decide +kernel
theorem dX6_readNumber_103 : decode cX6_readNumber 103 = .ok (.getfield 19, 3) := by decide +kernel
theorem dX6_readNumber_106 : decode cX6_readNumber 106 = .ok (.iload_n 3, 1) := by decide +kernel
theorem dX6_readNumber_107 : decode cX6_readNumber 107 = .ok (.iadd, 1) := by decide +kernel
theorem dX6_readNumber_108 : decode cX6_readNumber 108 = .ok (.putfield 19, 3) := by decide +kernel
theorem dX6_readNumber_111 : decode cX6_readNumber 111 = .ok (.iload 4, 2) := by decide +kernel
theorem dX6_readNumber_113 : decode cX6_readNumber 113 = .ok (.ireturn, 1) := by decide +kernel
theorem dX6_peek_0 : decode cX6_peek 0 = .ok (.iload_n 1, 1) := by decide +kernel
theorem dX6_peek_1 : decode cX6_peek 1 = .ok (.iconst 0, 1) := by decide +kernel
theorem dX6_peek_2 : decode cX6_peek 2 = .ok (.aload_n 0, 1) := by decide +kernel
theorem dX6_peek_3 : decode cX6_peek 3 = .ok (.getfield 15, 3) := by decide +kernel
theorem dX6_peek_6 : decode cX6_peek 6 = .ok (.iconst 1, 1) := by decide +kernel
theorem dX6_peek_7 : decode cX6_peek 7 = .ok (.isub, 1) := by decide +kernel
theorem dX6_peek_8 : decode cX6_peek 8 = .ok (.invokestatic 86, 3) := by decide +kernel
theorem dX6_peek_11 : decode cX6_peek 11 = .ok (.ifCond .eq 18, 3) := by decide +kernel
theorem dX6_peek_14 : decode cX6_peek 14 = .ok (.iload_n 1, 1) := by decide +kernel
theorem dX6_peek_15 : decode cX6_peek 15 = .ok (.bipush 100, 2) := by decide +kernel
theorem dX6_peek_17 : decode cX6_peek 17 = .ok (.if_icmp .ge 12, 3) := by decide +kernel
theorem dX6_peek_20 : decode cX6_peek 20 = .ok (.aload_n 0, 1) := by decide +kernel
theorem dX6_peek_21 : decode cX6_peek 21 = .ok (.getfield 9, 3) := by decide +kernel
theorem dX6_peek_24 : decode cX6_peek 24 = .ok (.iload_n 1, 1) := by decide +kernel
theorem dX6_peek_25 : decode cX6_peek 25 = .ok (.iaload, 1) := by decide +kernel
theorem dX6_peek_26 : decode cX6_peek 26 = .ok (.goto 4, 3) := by decide +kernel
theorem dX6_peek_29 : decode cX6_peek 29 = .ok (.iconst (-1), 1) := by decide +kernel
theorem dX6_peek_30 : decode cX6_peek 30 = .ok (.ireturn, 1) := by decide +kernel
theorem dX6_fail_0 : decode cX6_fail 0 = .ok (.aload_n 0, 1) := by decide +kernel
theorem dX6_fail_1 : decode cX6_fail 1 = .ok (.iload_n 1, 1) := by decide +kernel
theorem dX6_fail_2 : decode cX6_fail 2 = .ok (.putfield 22, 3) := by decide +kernel
theorem dX6_fail_5 : decode cX6_fail 5 = .ok (.aload_n 0, 1) := by decide +kernel
theorem dX6_fail_6 : decode cX6_fail 6 = .ok (.iload_n 2, 1) := by decide +kernel
theorem dX6_fail_7 : decode cX6_fail 7 = .ok (.putfield 25, 3) := by decide +kernel
theorem dX6_fail_10 : decode cX6_fail 10 = .ok (.iconst 0, 1) := by decide +kernel
theorem dX6_fail_11 : decode cX6_fail 11 = .ok (.ireturn, 1) := by decide +kernel
theorem dX6_kindOf_0 : decode cX6_kindOf 0 = .ok (.iload_n 0, 1) := by decide +kernel
theorem dX6_kindOf_1 : decode cX6_kindOf 1 = .ok (.lookupswitch 61 #[(100, 51), (109, 55), (112, 53), (117, 59), (119, 57)], 51) := by decide +kernel
theorem dX6_kindOf_52 : decode cX6_kindOf 52 = .ok (.iconst 1, 1) := by decide +kernel
theorem dX6_kindOf_53 : decode cX6_kindOf 53 = .ok (.ireturn, 1) := by decide +kernel
theorem dX6_kindOf_54 : decode cX6_kindOf 54 = .ok (.iconst 2, 1) := by decide +kernel
theorem dX6_kindOf_55 : decode cX6_kindOf 55 = .ok (.ireturn, 1) := by decide +kernel
theorem dX6_kindOf_56 : decode cX6_kindOf 56 = .ok (.iconst 3, 1) := by decide +kernel
theorem dX6_kindOf_57 : decode cX6_kindOf 57 = .ok (.ireturn, 1) := by decide +kernel
theorem dX6_kindOf_58 : decode cX6_kindOf 58 = .ok (.iconst 4, 1) := by decide +kernel
theorem dX6_kindOf_59 : decode cX6_kindOf 59 = .ok (.ireturn, 1) := by decide +kernel
theorem dX6_kindOf_60 : decode cX6_kindOf 60 = .ok (.iconst 5, 1) := by decide +kernel
theorem dX6_kindOf_61 : decode cX6_kindOf 61 = .ok (.ireturn, 1) := by decide +kernel
theorem dX6_kindOf_62 : decode cX6_kindOf 62 = .ok (.iconst 0, 1) := by decide +kernel
theorem dX6_kindOf_63 : decode cX6_kindOf 63 = .ok (.ireturn, 1) := by decide +kernel
theorem dX7_init_0 : decode cX7_init 0 = .ok (.aload_n 0, 1) := by decide +kernel
theorem dX7_init_1 : decode cX7_init 1 = .ok (.invokespecial 3, 3) := by decide +kernel
theorem dX7_init_4 : decode cX7_init 4 = .ok (.aload_n 0, 1) := by decide +kernel
theorem dX7_init_5 : decode cX7_init 5 = .ok (.bipush 16, 2) := by decide +kernel
theorem dX7_init_7 : decode cX7_init 7 = .ok (.newarray .int, 2) := by decide +kernel
theorem dX7_init_9 : decode cX7_init 9 = .ok (.putfield 9, 3) := by decide +kernel
theorem dX7_init_12 : decode cX7_init 12 = .ok (.return_, 1) := by decide +kernel
theorem dX7_leave_0 : decode cX7_leave 0 = .ok (.aload_n 0, 1) := by decide +kernel
theorem dX7_leave_1 : decode cX7_leave 1 = .ok (.getfield 15, 3) := by decide +kernel
theorem dX7_leave_4 : decode cX7_leave 4 = .ok (.bipush 16, 2) := by decide +kernel
theorem dX7_leave_6 : decode cX7_leave 6 = .ok (.if_icmp .ge 23, 3) := by decide +kernel
theorem dX7_leave_9 : decode cX7_leave 9 = .ok (.aload_n 0, 1) := by decide +kernel
theorem dX7_leave_10 : decode cX7_leave 10 = .ok (.getfield 9, 3) := by decide +kernel
theorem dX7_leave_13 : decode cX7_leave 13 = .ok (.aload_n 0, 1) := by decide +kernel
theorem dX7_leave_14 : decode cX7_leave 14 = .ok (.getfield 15, 3) := by decide +kernel
theorem dX7_leave_17 : decode cX7_leave 17 = .ok (.iload_n 1, 1) := by decide +kernel
theorem dX7_leave_18 : decode cX7_leave 18 = .ok (.iastore, 1) := by decide +kernel
theorem dX7_leave_19 : decode cX7_leave 19 = .ok (.aload_n 0, 1) := by decide +kernel
theorem dX7_leave_20 : decode cX7_leave 20 = .ok (.dup, 1) := by decide +kernel
theorem dX7_leave_21 : decode cX7_leave 21 = .ok (.getfield 15, 3) := by decide +kernel
theorem dX7_leave_24 : decode cX7_leave 24 = .ok (.iconst 1, 1) := by decide +kernel
theorem dX7_leave_25 : decode cX7_leave 25 = .ok (.iadd, 1) := by decide +kernel
theorem dX7_leave_26 : decode cX7_leave 26 = .ok (.putfield 15, 3) := by decide +kernel
theorem dX7_leave_29 : decode cX7_leave 29 = .ok (.return_, 1) := by decide +kernel
theorem dX7_answer_0 : decode cX7_answer 0 = .ok (.aload_n 0, 1) := by decide +kernel
theorem dX7_answer_1 : decode cX7_answer 1 = .ok (.aload_n 1, 1) := by decide +kernel
theorem dX7_answer_2 : decode cX7_answer 2 = .ok (.iload_n 2, 1) := by decide +kernel
theorem dX7_answer_3 : decode cX7_answer 3 = .ok (.aload_n 1, 1) := by decide +kernel
theorem dX7_answer_4 : decode cX7_answer 4 = .ok (.iload_n 3, 1) := by decide +kernel
theorem dX7_answer_5 : decode cX7_answer 5 = .ok (.invokestatic 19, 3) := by decide +kernel
theorem dX7_answer_8 : decode cX7_answer 8 = .ok (.iconst 0, 1) := by decide +kernel
theorem dX7_answer_9 : decode cX7_answer 9 = .ok (.invokestatic 23, 3) := by decide +kernel
theorem dX7_answer_12 : decode cX7_answer 12 = .ok (.ireturn, 1) := by decide +kernel
theorem dX7_bodyFor_0 : decode cX7_bodyFor 0 = .ok (.aload_n 0, 1) := by decide +kernel
theorem dX7_bodyFor_1 : decode cX7_bodyFor 1 = .ok (.getfield 27, 3) := by decide +kernel
theorem dX7_bodyFor_4 : decode cX7_bodyFor 4 = .ok (.iconst 0, 1) := by decide +kernel
theorem dX7_bodyFor_5 : decode cX7_bodyFor 5 = .ok (.iconst 5, 1) := by decide +kernel
theorem dX7_bodyFor_6 : decode cX7_bodyFor 6 = .ok (.invokestatic 32, 3) := by decide +kernel
theorem dX7_bodyFor_9 : decode cX7_bodyFor 9 = .ok (.ifCond .eq 10, 3) := by decide +kernel
theorem dX7_bodyFor_12 : decode cX7_bodyFor 12 = .ok (.aload_n 0, 1) := by decide +kernel
theorem dX7_bodyFor_13 : decode cX7_bodyFor 13 = .ok (.getfield 27, 3) := by decide +kernel
theorem dX7_bodyFor_16 : decode cX7_bodyFor 16 = .ok (.goto 4, 3) := by decide +kernel
theorem dX7_bodyFor_19 : decode cX7_bodyFor 19 = .ok (.iconst 0, 1) := by decide +kernel
theorem dX7_bodyFor_20 : decode cX7_bodyFor 20 = .ok (.istore_n 2, 1) := by decide +kernel
theorem dX7_bodyFor_21 : decode cX7_bodyFor 21 = .ok (.iload_n 1, 1) := by decide +kernel
theorem dX7_bodyFor_22 : decode cX7_bodyFor 22 = .ok (.ifCond .ne 11, 3) := by decide +kernel
theorem dX7_bodyFor_25 : decode cX7_bodyFor 25 = .ok (.getstatic 36, 3) := by decide +kernel
theorem dX7_bodyFor_28 : decode cX7_bodyFor 28 = .ok (.iload_n 2, 1) := by decide +kernel
theorem dX7_bodyFor_29 : decode cX7_bodyFor 29 = .ok (.iaload, 1) := by decide +kernel
theorem dX7_bodyFor_30 : decode cX7_bodyFor 30 = .ok (.goto 8, 3) := by decide +kernel
theorem dX7_bodyFor_33 : decode cX7_bodyFor 33 = .ok (.getstatic 39, 3) := by decide +kernel
theorem dX7_bodyFor_36 : decode cX7_bodyFor 36 = .ok (.iload_n 2, 1) := by decide +kernel
theorem dX7_bodyFor_37 : decode cX7_bodyFor 37 = .ok (.iaload, 1) := by decide +kernel
theorem dX7_bodyFor_38 : decode cX7_bodyFor 38 = .ok (.ireturn, 1) := by decide +kernel
theorem dX7_give_0 : decode cX7_give 0 = .ok (.iload 4, 2) := by decide +kernel
theorem dX7_give_2 : decode cX7_give 2 = .ok (.bipush 16, 2) := by decide +kernel
theorem dX7_give_4 : decode cX7_give 4 = .ok (.if_icmp .le 5, 3) := by decide +kernel
theorem dX7_give_7 : decode cX7_give 7 = .ok (.iconst 0, 1) := by decide +kernel
theorem dX7_give_8 : decode cX7_give 8 = .ok (.ireturn, 1) := by decide +kernel
theorem dX7_give_9 : decode cX7_give 9 = .ok (.aload_n 0, 1) := by decide +kernel
theorem dX7_give_10 : decode cX7_give 10 = .ok (.iload_n 3, 1) := by decide +kernel
theorem dX7_give_11 : decode cX7_give 11 = .ok (.invokevirtual 42, 3) := by decide +kernel
theorem dX7_give_14 : decode cX7_give 14 = .ok (.iload 4, 2) := by decide +kernel
theorem dX7_give_16 : decode cX7_give 16 = .ok (.iconst 1, 1) := by decide +kernel
theorem dX7_give_17 : decode cX7_give 17 = .ok (.iadd, 1) := by decide +kernel
theorem dX7_give_18 : decode cX7_give 18 = .ok (.istore 5, 2) := by decide +kernel
theorem dX7_give_20 : decode cX7_give 20 = .ok (.iload_n 3, 1) := by decide +kernel
theorem dX7_give_21 : decode cX7_give 21 = .ok (.tableswitch 215 10 24 #[75, 80, 105, 117, 131, 215, 215, 215, 215, 215, 144, 146, 162, 177, 202], 75) := by decide +kernel
theorem dX7_give_96 : decode cX7_give 96 = .ok (.aload_n 1, 1) := by decide +kernel
theorem dX7_give_97 : decode cX7_give 97 = .ok (.getfield 46, 3) := by decide +kernel
theorem dX7_give_100 : decode cX7_give 100 = .ok (.ireturn, 1) := by decide +kernel
theorem dX7_give_101 : decode cX7_give 101 = .ok (.aload_n 0, 1) := by decide +kernel
theorem dX7_give_102 : decode cX7_give 102 = .ok (.aload_n 1, 1) := by decide +kernel
theorem dX7_give_103 : decode cX7_give 103 = .ok (.iload_n 2, 1) := by decide +kernel
theorem dX7_give_104 : decode cX7_give 104 = .ok (.bipush 10, 2) := by decide +kernel
theorem dX7_give_106 : decode cX7_give 106 = .ok (.iload 5, 2) := by decide +kernel
theorem dX7_give_108 : decode cX7_give 108 = .ok (.invokestatic 23, 3) := by decide +kernel
theorem dX7_give_111 : decode cX7_give 111 = .ok (.aload_n 0, 1) := by decide +kernel
theorem dX7_give_112 : decode cX7_give 112 = .ok (.aload_n 1, 1) := by decide +kernel
theorem dX7_give_113 : decode cX7_give 113 = .ok (.iload_n 2, 1) := by decide +kernel
theorem dX7_give_114 : decode cX7_give 114 = .ok (.aload_n 1, 1) := by decide +kernel
theorem dX7_give_115 : decode cX7_give 115 = .ok (.iconst 1, 1) := by decide +kernel
theorem dX7_give_116 : decode cX7_give 116 = .ok (.invokestatic 19, 3) := by decide +kernel
theorem dX7_give_119 : decode cX7_give 119 = .ok (.iload 5, 2) := by decide +kernel
theorem dX7_give_121 : decode cX7_give 121 = .ok (.invokestatic 23, 3) := by decide +kernel
theorem dX7_give_124 : decode cX7_give 124 = .ok (.iadd, 1) := by decide +kernel
theorem dX7_give_125 : decode cX7_give 125 = .ok (.ireturn, 1) := by decide +kernel
theorem dX7_give_126 : decode cX7_give 126 = .ok (.aload_n 0, 1) := by decide +kernel
theorem dX7_give_127 : decode cX7_give 127 = .ok (.aload_n 1, 1) := by decide +kernel
theorem dX7_give_128 : decode cX7_give 128 = .ok (.iload_n 2, 1) := by decide +kernel
theorem dX7_give_129 : decode cX7_give 129 = .ok (.bipush 11, 2) := by decide +kernel
theorem dX7_give_131 : decode cX7_give 131 = .ok (.iload 5, 2) := by decide +kernel
theorem dX7_give_133 : decode cX7_give 133 = .ok (.invokestatic 23, 3) := by decide +kernel
theorem dX7_give_136 : decode cX7_give 136 = .ok (.ineg, 1) := by decide +kernel
theorem dX7_give_137 : decode cX7_give 137 = .ok (.ireturn, 1) := by decide +kernel
theorem dX7_give_138 : decode cX7_give 138 = .ok (.aload_n 0, 1) := by decide +kernel
theorem dX7_give_139 : decode cX7_give 139 = .ok (.aload_n 1, 1) := by decide +kernel
theorem dX7_give_140 : decode cX7_give 140 = .ok (.iload_n 2, 1) := by decide +kernel
theorem dX7_give_141 : decode cX7_give 141 = .ok (.bipush 10, 2) := by decide +kernel
theorem dX7_give_143 : decode cX7_give 143 = .ok (.iload 5, 2) := by decide +kernel
theorem dX7_give_145 : decode cX7_give 145 = .ok (.invokestatic 23, 3) := by decide +kernel
theorem dX7_give_148 : decode cX7_give 148 = .ok (.bipush 100, 2) := by decide +kernel
theorem dX7_give_150 : decode cX7_give 150 = .ok (.isub, 1) := by decide +kernel
theorem dX7_give_151 : decode cX7_give 151 = .ok (.ireturn, 1) := by decide +kernel
theorem dX7_give_152 : decode cX7_give 152 = .ok (.iconst 2, 1) := by decide +kernel
theorem dX7_give_153 : decode cX7_give 153 = .ok (.aload_n 0, 1) := by decide +kernel
theorem dX7_give_154 : decode cX7_give 154 = .ok (.aload_n 1, 1) := by decide +kernel
theorem dX7_give_155 : decode cX7_give 155 = .ok (.iload_n 2, 1) := by decide +kernel
theorem dX7_give_156 : decode cX7_give 156 = .ok (.bipush 13, 2) := by decide +kernel
theorem dX7_give_158 : decode cX7_give 158 = .ok (.iload 5, 2) := by decide +kernel
theorem dX7_give_160 : decode cX7_give 160 = .ok (.invokestatic 23, 3) := by decide +kernel
theorem dX7_give_163 : decode cX7_give 163 = .ok (.imul, 1) := by decide +kernel
theorem dX7_give_164 : decode cX7_give 164 = .ok (.ireturn, 1) := by decide +kernel
theorem dX7_give_165 : decode cX7_give 165 = .ok (.iload_n 2, 1) := by decide +kernel
theorem dX7_give_166 : decode cX7_give 166 = .ok (.ireturn, 1) := by decide +kernel
theorem dX7_give_167 : decode cX7_give 167 = .ok (.aload_n 0, 1) := by decide +kernel
theorem dX7_give_168 : decode cX7_give 168 = .ok (.aload_n 1, 1) := by decide +kernel
theorem dX7_give_169 : decode cX7_give 169 = .ok (.iload_n 2, 1) := by decide +kernel
theorem dX7_give_170 : decode cX7_give 170 = .ok (.bipush 20, 2) := by decide +kernel
theorem dX7_give_172 : decode cX7_give 172 = .ok (.iload 5, 2) := by decide +kernel
theorem dX7_give_174 : decode cX7_give 174 = .ok (.invokestatic 23, 3) := by decide +kernel
theorem dX7_give_177 : decode cX7_give 177 = .ok (.aload_n 1, 1) := by decide +kernel
theorem dX7_give_178 : decode cX7_give 178 = .ok (.getfield 49, 3) := by decide +kernel
theorem dX7_give_181 : decode cX7_give 181 = .ok (.iadd, 1) := by decide +kernel
theorem dX7_give_182 : decode cX7_give 182 = .ok (.ireturn, 1) := by decide +kernel
theorem dX7_give_183 : decode cX7_give 183 = .ok (.aload_n 0, 1) := by decide +kernel
theorem dX7_give_184 : decode cX7_give 184 = .ok (.aload_n 1, 1) := by decide +kernel
theorem dX7_give_185 : decode cX7_give 185 = .ok (.iload_n 2, 1) := by decide +kernel
theorem dX7_give_186 : decode cX7_give 186 = .ok (.bipush 21, 2) := by decide +kernel
theorem dX7_give_188 : decode cX7_give 188 = .ok (.iload 5, 2) := by decide +kernel
theorem dX7_give_190 : decode cX7_give 190 = .ok (.invokestatic 23, 3) := by decide +kernel
theorem dX7_give_193 : decode cX7_give 193 = .ok (.sipush 1000, 3) := by decide +kernel
theorem dX7_give_196 : decode cX7_give 196 = .ok (.isub, 1) := by decide +kernel
theorem dX7_give_197 : decode cX7_give 197 = .ok (.ireturn, 1) := by decide +kernel
theorem dX7_give_198 : decode cX7_give 198 = .ok (.aload_n 0, 1) := by decide +kernel
theorem dX7_give_199 : decode cX7_give 199 = .ok (.aload_n 1, 1) := by decide +kernel
theorem dX7_give_200 : decode cX7_give 200 = .ok (.iload_n 2, 1) := by decide +kernel
theorem dX7_give_201 : decode cX7_give 201 = .ok (.bipush 20, 2) := by decide +kernel
theorem dX7_give_203 : decode cX7_give 203 = .ok (.iload 5, 2) := by decide +kernel
theorem dX7_give_205 : decode cX7_give 205 = .ok (.invokestatic 23, 3) := by decide +kernel
theorem dX7_give_208 : decode cX7_give 208 = .ok (.aload_n 0, 1) := by decide +kernel
theorem dX7_give_209 : decode cX7_give 209 = .ok (.aload_n 1, 1) := by decide +kernel
theorem dX7_give_210 : decode cX7_give 210 = .ok (.iload_n 2, 1) := by decide +kernel
theorem dX7_give_211 : decode cX7_give 211 = .ok (.aload_n 1, 1) := by decide +kernel
theorem dX7_give_212 : decode cX7_give 212 = .ok (.iconst 0, 1) := by decide +kernel
theorem dX7_give_213 : decode cX7_give 213 = .ok (.invokestatic 19, 3) := by decide +kernel
theorem dX7_give_216 : decode cX7_give 216 = .ok (.iload 5, 2) := by decide +kernel
theorem dX7_give_218 : decode cX7_give 218 = .ok (.invokestatic 23, 3) := by decide +kernel
theorem dX7_give_221 : decode cX7_give 221 = .ok (.isub, 1) := by decide +kernel
theorem dX7_give_222 : decode cX7_give 222 = .ok (.ireturn, 1) := by decide +kernel
theorem dX7_give_223 : decode cX7_give 223 = .ok (.iconst 2, 1) := by decide +kernel
theorem dX7_give_224 : decode cX7_give 224 = .ok (.aload_n 0, 1) := by decide +kernel
theorem dX7_give_225 : decode cX7_give 225 = .ok (.aload_n 1, 1) := by decide +kernel
theorem dX7_give_226 : decode cX7_give 226 = .ok (.iload_n 2, 1) := by decide +kernel
theorem dX7_give_227 : decode cX7_give 227 = .ok (.bipush 21, 2) := by decide +kernel
theorem dX7_give_229 : decode cX7_give 229 = .ok (.iload 5, 2) := by decide +kernel
theorem dX7_give_231 : decode cX7_give 231 = .ok (.invokestatic 23, 3) := by decide +kernel
theorem dX7_give_234 : decode cX7_give 234 = .ok (.imul, 1) := by decide +kernel
theorem dX7_give_235 : decode cX7_give 235 = .ok (.ireturn, 1) := by decide +kernel
theorem dX7_give_236 : decode cX7_give 236 = .ok (.iconst 0, 1) := by decide +kernel
theorem dX7_give_237 : decode cX7_give 237 = .ok (.ireturn, 1) := by decide +kernel
theorem dX8_init_0 : decode cX8_init 0 = .ok (.aload_n 0, 1) := by decide +kernel
theorem dX8_init_1 : decode cX8_init 1 = .ok (.invokespecial 1, 3) := by decide +kernel
theorem dX8_init_4 : decode cX8_init 4 = .ok (.aload_n 0, 1) := by decide +kernel
theorem dX8_init_5 : decode cX8_init 5 = .ok (.bipush 8, 2) := by decide +kernel
theorem dX8_init_7 : decode cX8_init 7 = .ok (.anewarray 9, 3) := by decide +kernel
theorem dX8_init_10 : decode cX8_init 10 = .ok (.putfield 11, 3) := by decide +kernel
theorem dX8_init_13 : decode cX8_init 13 = .ok (.aload_n 0, 1) := by decide +kernel
theorem dX8_init_14 : decode cX8_init 14 = .ok (.new 15, 3) := by decide +kernel
theorem dX8_init_17 : decode cX8_init 17 = .ok (.dup, 1) := by decide +kernel
theorem dX8_init_18 : decode cX8_init 18 = .ok (.invokespecial 17, 3) := by decide +kernel
theorem dX8_init_21 : decode cX8_init 21 = .ok (.putfield 18, 3) := by decide +kernel
theorem dX8_init_24 : decode cX8_init 24 = .ok (.aload_n 0, 1) := by decide +kernel
theorem dX8_init_25 : decode cX8_init 25 = .ok (.new 22, 3) := by decide +kernel
theorem dX8_init_28 : decode cX8_init 28 = .ok (.dup, 1) := by decide +kernel
theorem dX8_init_29 : decode cX8_init 29 = .ok (.invokespecial 24, 3) := by decide +kernel
theorem dX8_init_32 : decode cX8_init 32 = .ok (.putfield 25, 3) := by decide +kernel
theorem dX8_init_35 : decode cX8_init 35 = .ok (.aload_n 0, 1) := by decide +kernel
theorem dX8_init_36 : decode cX8_init 36 = .ok (.new 22, 3) := by decide +kernel
theorem dX8_init_39 : decode cX8_init 39 = .ok (.dup, 1) := by decide +kernel
theorem dX8_init_40 : decode cX8_init 40 = .ok (.invokespecial 24, 3) := by decide +kernel
theorem dX8_init_43 : decode cX8_init 43 = .ok (.putfield 29, 3) := by decide +kernel
theorem dX8_init_46 : decode cX8_init 46 = .ok (.aload_n 0, 1) := by decide +kernel
theorem dX8_init_47 : decode cX8_init 47 = .ok (.iconst 2, 1) := by decide +kernel
theorem dX8_init_48 : decode cX8_init 48 = .ok (.anewarray 22, 3) := by decide +kernel
theorem dX8_init_51 : decode cX8_init 51 = .ok (.putfield 32, 3) := by decide +kernel
theorem dX8_init_54 : decode cX8_init 54 = .ok (.aload_n 0, 1) := by decide +kernel
theorem dX8_init_55 : decode cX8_init 55 = .ok (.new 36, 3) := by decide +kernel
theorem dX8_init_58 : decode cX8_init 58 = .ok (.dup, 1) := by decide +kernel
theorem dX8_init_59 : decode cX8_init 59 = .ok (.invokespecial 38, 3) := by decide +kernel
theorem dX8_init_62 : decode cX8_init 62 = .ok (.putfield 39, 3) := by decide +kernel
theorem dX8_init_65 : decode cX8_init 65 = .ok (.aload_n 0, 1) := by decide +kernel
theorem dX8_init_66 : decode cX8_init 66 = .ok (.new 43, 3) := by decide +kernel
theorem dX8_init_69 : decode cX8_init 69 = .ok (.dup, 1) := by decide +kernel
theorem dX8_init_70 : decode cX8_init 70 = .ok (.invokespecial 45, 3) := by decide +kernel
theorem dX8_init_73 : decode cX8_init 73 = .ok (.putfield 46, 3) := by decide +kernel
theorem dX8_init_76 : decode cX8_init 76 = .ok (.aload_n 0, 1) := by decide +kernel
theorem dX8_init_77 : decode cX8_init 77 = .ok (.new 50, 3) := by decide +kernel
theorem dX8_init_80 : decode cX8_init 80 = .ok (.dup, 1) := by decide +kernel
theorem dX8_init_81 : decode cX8_init 81 = .ok (.invokespecial 52, 3) := by decide +kernel
theorem dX8_init_84 : decode cX8_init 84 = .ok (.putfield 53, 3) := by decide +kernel
theorem dX8_init_87 : decode cX8_init 87 = .ok (.iconst 0, 1) := by decide +kernel
theorem dX8_init_88 : decode cX8_init 88 = .ok (.istore_n 1, 1) := by decide +kernel
theorem dX8_init_89 : decode cX8_init 89 = .ok (.iload_n 1, 1) := by decide +kernel
theorem dX8_init_90 : decode cX8_init 90 = .ok (.bipush 8, 2) := by decide +kernel
theorem dX8_init_92 : decode cX8_init 92 = .ok (.if_icmp .ge 22, 3) := by decide +kernel
theorem dX8_init_95 : decode cX8_init 95 = .ok (.aload_n 0, 1) := by decide +kernel
theorem dX8_init_96 : decode cX8_init 96 = .ok (.getfield 11, 3) := by decide +kernel
theorem dX8_init_99 : decode cX8_init 99 = .ok (.iload_n 1, 1) := by decide +kernel
theorem dX8_init_100 : decode cX8_init 100 = .ok (.new 9, 3) := by decide +kernel
theorem dX8_init_103 : decode cX8_init 103 = .ok (.dup, 1) := by decide +kernel
theorem dX8_init_104 : decode cX8_init 104 = .ok (.invokespecial 57, 3) := by decide +kernel
theorem dX8_init_107 : decode cX8_init 107 = .ok (.aastore, 1) := by decide +kernel
theorem dX8_init_108 : decode cX8_init 108 = .ok (.iinc 1 1, 3) := by decide +kernel
theorem dX8_init_111 : decode cX8_init 111 = .ok (.goto (-22), 3) := by decide +kernel
theorem dX8_init_114 : decode cX8_init 114 = .ok (.iconst 0, 1) := by decide +kernel
theorem dX8_init_115 : decode cX8_init 115 = .ok (.istore_n 1, 1) := by decide +kernel
theorem dX8_init_116 : decode cX8_init 116 = .ok (.iload_n 1, 1) := by decide +kernel
theorem dX8_init_117 : decode cX8_init 117 = .ok (.iconst 2, 1) := by decide +kernel
theorem dX8_init_118 : decode cX8_init 118 = .ok (.if_icmp .ge 22, 3) := by decide +kernel
theorem dX8_init_121 : decode cX8_init 121 = .ok (.aload_n 0, 1) := by decide +kernel
theorem dX8_init_122 : decode cX8_init 122 = .ok (.getfield 32, 3) := by decide +kernel
theorem dX8_init_125 : decode cX8_init 125 = .ok (.iload_n 1, 1) := by decide +kernel
theorem dX8_init_126 : decode cX8_init 126 = .ok (.new 22, 3) := by decide +kernel
theorem dX8_init_129 : decode cX8_init 129 = .ok (.dup, 1) := by decide +kernel
theorem dX8_init_130 : decode cX8_init 130 = .ok (.invokespecial 24, 3) := by decide +kernel
theorem dX8_init_133 : decode cX8_init 133 = .ok (.aastore, 1) := by decide +kernel
theorem dX8_init_134 : decode cX8_init 134 = .ok (.iinc 1 1, 3) := by decide +kernel
theorem dX8_init_137 : decode cX8_init 137 = .ok (.goto (-21), 3) := by decide +kernel
theorem dX8_init_140 : decode cX8_init 140 = .ok (.return_, 1) := by decide +kernel
theorem dX8_row_0 : decode cX8_row 0 = .ok (.iload_n 1, 1) := by decide +kernel
theorem dX8_row_1 : decode cX8_row 1 = .ok (.invokestatic 58, 3) := by decide +kernel
theorem dX8_row_4 : decode cX8_row 4 = .ok (.ifCond .eq 18, 3) := by decide +kernel
theorem dX8_row_7 : decode cX8_row 7 = .ok (.iload_n 2, 1) := by decide +kernel
theorem dX8_row_8 : decode cX8_row 8 = .ok (.iconst 0, 1) := by decide +kernel
theorem dX8_row_9 : decode cX8_row 9 = .ok (.iconst 2, 1) := by decide +kernel
theorem dX8_row_10 : decode cX8_row 10 = .ok (.invokestatic 62, 3) := by decide +kernel
theorem dX8_row_13 : decode cX8_row 13 = .ok (.ifCond .eq 9, 3) := by decide +kernel
theorem dX8_row_16 : decode cX8_row 16 = .ok (.iload_n 3, 1) := by decide +kernel
theorem dX8_row_17 : decode cX8_row 17 = .ok (.bipush 40, 2) := by decide +kernel
theorem dX8_row_19 : decode cX8_row 19 = .ok (.if_icmp .le 6, 3) := by decide +kernel
theorem dX8_row_22 : decode cX8_row 22 = .ok (.ldc 66, 2) := by decide +kernel
theorem dX8_row_24 : decode cX8_row 24 = .ok (.ireturn, 1) := by decide +kernel
theorem dX8_row_25 : decode cX8_row 25 = .ok (.iload_n 3, 1) := by decide +kernel
theorem dX8_row_26 : decode cX8_row 26 = .ok (.ifCond .ge 9, 3) := by decide +kernel
theorem dX8_row_29 : decode cX8_row 29 = .ok (.aload_n 0, 1) := by decide +kernel
theorem dX8_row_30 : decode cX8_row 30 = .ok (.iconst 4, 1) := by decide +kernel
theorem dX8_row_31 : decode cX8_row 31 = .ok (.invokevirtual 67, 3) := by decide +kernel
theorem dX8_row_34 : decode cX8_row 34 = .ok (.ireturn, 1) := by decide +kernel
theorem dX8_row_35 : decode cX8_row 35 = .ok (.aload_n 0, 1) := by decide +kernel
theorem dX8_row_36 : decode cX8_row 36 = .ok (.getfield 11, 3) := by decide +kernel
theorem dX8_row_39 : decode cX8_row 39 = .ok (.iload_n 1, 1) := by decide +kernel
theorem dX8_row_40 : decode cX8_row 40 = .ok (.aaload, 1) := by decide +kernel
theorem dX8_row_41 : decode cX8_row 41 = .ok (.iload_n 2, 1) := by decide +kernel
theorem dX8_row_42 : decode cX8_row 42 = .ok (.iload_n 3, 1) := by decide +kernel
theorem dX8_row_43 : decode cX8_row 43 = .ok (.invokevirtual 71, 3) := by decide +kernel
theorem dX8_row_46 : decode cX8_row 46 = .ok (.aload_n 0, 1) := by decide +kernel
theorem dX8_row_47 : decode cX8_row 47 = .ok (.iload_n 3, 1) := by decide +kernel
theorem dX8_row_48 : decode cX8_row 48 = .ok (.invokevirtual 75, 3) := by decide +kernel
theorem dX8_row_51 : decode cX8_row 51 = .ok (.ireturn, 1) := by decide +kernel
theorem dX8_set_0 : decode cX8_set 0 = .ok (.iload_n 1, 1) := by decide +kernel
theorem dX8_set_1 : decode cX8_set 1 = .ok (.invokestatic 58, 3) := by decide +kernel
theorem dX8_set_4 : decode cX8_set 4 = .ok (.ifCond .ne 6, 3) := by decide +kernel
theorem dX8_set_7 : decode cX8_set 7 = .ok (.ldc 66, 2) := by decide +kernel
theorem dX8_set_9 : decode cX8_set 9 = .ok (.ireturn, 1) := by decide +kernel
theorem dX8_set_10 : decode cX8_set 10 = .ok (.aload_n 0, 1) := by decide +kernel
theorem dX8_set_11 : decode cX8_set 11 = .ok (.getfield 11, 3) := by decide +kernel
theorem dX8_set_14 : decode cX8_set 14 = .ok (.iload_n 1, 1) := by decide +kernel
theorem dX8_set_15 : decode cX8_set 15 = .ok (.aaload, 1) := by decide +kernel
theorem dX8_set_16 : decode cX8_set 16 = .ok (.astore 4, 2) := by decide +kernel
theorem dX8_set_18 : decode cX8_set 18 = .ok (.aload 4, 2) := by decide +kernel
theorem dX8_set_20 : decode cX8_set 20 = .ok (.getfield 78, 3) := by decide +kernel
theorem dX8_set_23 : decode cX8_set 23 = .ok (.ifCond .eq 9, 3) := by decide +kernel
theorem dX8_set_26 : decode cX8_set 26 = .ok (.aload_n 0, 1) := by decide +kernel
theorem dX8_set_27 : decode cX8_set 27 = .ok (.iconst 1, 1) := by decide +kernel
theorem dX8_set_28 : decode cX8_set 28 = .ok (.invokevirtual 67, 3) := by decide +kernel
theorem dX8_set_31 : decode cX8_set 31 = .ok (.ireturn, 1) := by decide +kernel
theorem dX8_set_32 : decode cX8_set 32 = .ok (.aload 4, 2) := by decide +kernel
theorem dX8_set_34 : decode cX8_set 34 = .ok (.iload_n 2, 1) := by decide +kernel
theorem dX8_set_35 : decode cX8_set 35 = .ok (.iconst 1, 1) := by decide +kernel
theorem dX8_set_36 : decode cX8_set 36 = .ok (.invokevirtual 82, 3) := by decide +kernel
theorem dX8_set_39 : decode cX8_set 39 = .ok (.ifCond .ne 9, 3) := by decide +kernel
theorem dX8_set_42 : decode cX8_set 42 = .ok (.aload_n 0, 1) := by decide +kernel
theorem dX8_set_43 : decode cX8_set 43 = .ok (.iconst 2, 1) := by decide +kernel
theorem dX8_set_44 : decode cX8_set 44 = .ok (.invokevirtual 67, 3) := by decide +kernel
theorem dX8_set_47 : decode cX8_set 47 = .ok (.ireturn, 1) := by decide +kernel
theorem dX8_set_48 : decode cX8_set 48 = .ok (.aload 4, 2) := by decide +kernel
theorem dX8_set_50 : decode cX8_set 50 = .ok (.getfield 86, 3) := by decide +kernel
theorem dX8_set_53 : decode cX8_set 53 = .ok (.iload_n 2, 1) := by decide +kernel
theorem dX8_set_54 : decode cX8_set 54 = .ok (.aload 4, 2) := by decide +kernel
theorem dX8_set_56 : decode cX8_set 56 = .ok (.iload_n 3, 1) := by decide +kernel
theorem dX8_set_57 : decode cX8_set 57 = .ok (.invokevirtual 90, 3) := by decide +kernel
theorem dX8_set_60 : decode cX8_set 60 = .ok (.iastore, 1) := by decide +kernel
theorem dX8_set_61 : decode cX8_set 61 = .ok (.aload_n 0, 1) := by decide +kernel
theorem dX8_set_62 : decode cX8_set 62 = .ok (.aload 4, 2) := by decide +kernel
theorem dX8_set_64 : decode cX8_set 64 = .ok (.getfield 86, 3) := by decide +kernel
theorem dX8_set_67 : decode cX8_set 67 = .ok (.iload_n 2, 1) := by decide +kernel
theorem dX8_set_68 : decode cX8_set 68 = .ok (.iaload, 1) := by decide +kernel
theorem dX8_set_69 : decode cX8_set 69 = .ok (.invokevirtual 75, 3) := by decide +kernel
theorem dX8_set_72 : decode cX8_set 72 = .ok (.ireturn, 1) := by decide +kernel
theorem dX8_copy_0 : decode cX8_copy 0 = .ok (.iload_n 1, 1) := by decide +kernel
theorem dX8_copy_1 : decode cX8_copy 1 = .ok (.invokestatic 58, 3) := by decide +kernel
theorem dX8_copy_4 : decode cX8_copy 4 = .ok (.ifCond .eq 10, 3) := by decide +kernel
theorem dX8_copy_7 : decode cX8_copy 7 = .ok (.iload_n 3, 1) := by decide +kernel
theorem dX8_copy_8 : decode cX8_copy 8 = .ok (.invokestatic 58, 3) := by decide +kernel
theorem dX8_copy_11 : decode cX8_copy 11 = .ok (.ifCond .ne 6, 3) := by decide +kernel
theorem dX8_copy_14 : decode cX8_copy 14 = .ok (.ldc 66, 2) := by decide +kernel
theorem dX8_copy_16 : decode cX8_copy 16 = .ok (.ireturn, 1) := by decide +kernel
theorem dX8_copy_17 : decode cX8_copy 17 = .ok (.aload_n 0, 1) := by decide +kernel
theorem dX8_copy_18 : decode cX8_copy 18 = .ok (.getfield 11, 3) := by decide +kernel
theorem dX8_copy_21 : decode cX8_copy 21 = .ok (.iload_n 1, 1) := by decide +kernel
theorem dX8_copy_22 : decode cX8_copy 22 = .ok (.aaload, 1) := by decide +kernel
theorem dX8_copy_23 : decode cX8_copy 23 = .ok (.astore 6, 2) := by decide +kernel
theorem dX8_copy_25 : decode cX8_copy 25 = .ok (.aload_n 0, 1) := by decide +kernel
theorem dX8_copy_26 : decode cX8_copy 26 = .ok (.getfield 11, 3) := by decide +kernel
theorem dX8_copy_29 : decode cX8_copy 29 = .ok (.iload_n 3, 1) := by decide +kernel
theorem dX8_copy_30 : decode cX8_copy 30 = .ok (.aaload, 1) := by decide +kernel
theorem dX8_copy_31 : decode cX8_copy 31 = .ok (.astore 7, 2) := by decide +kernel
theorem dX8_copy_33 : decode cX8_copy 33 = .ok (.aload 6, 2) := by decide +kernel
theorem dX8_copy_35 : decode cX8_copy 35 = .ok (.getfield 78, 3) := by decide +kernel
theorem dX8_copy_38 : decode cX8_copy 38 = .ok (.ifCond .ne 11, 3) := by decide +kernel
theorem dX8_copy_41 : decode cX8_copy 41 = .ok (.aload 7, 2) := by decide +kernel
theorem dX8_copy_43 : decode cX8_copy 43 = .ok (.getfield 78, 3) := by decide +kernel
theorem dX8_copy_46 : decode cX8_copy 46 = .ok (.ifCond .eq 9, 3) := by decide +kernel
theorem dX8_copy_49 : decode cX8_copy 49 = .ok (.aload_n 0, 1) := by decide +kernel
theorem dX8_copy_50 : decode cX8_copy 50 = .ok (.iconst 1, 1) := by decide +kernel
theorem dX8_copy_51 : decode cX8_copy 51 = .ok (.invokevirtual 67, 3) := by decide +kernel
theorem dX8_copy_54 : decode cX8_copy 54 = .ok (.ireturn, 1) := by decide +kernel
theorem dX8_copy_55 : decode cX8_copy 55 = .ok (.aload 6, 2) := by decide +kernel
theorem dX8_copy_57 : decode cX8_copy 57 = .ok (.getfield 93, 3) := by decide +kernel
theorem dX8_copy_60 : decode cX8_copy 60 = .ok (.aload 7, 2) := by decide +kernel
theorem dX8_copy_62 : decode cX8_copy 62 = .ok (.getfield 93, 3) := by decide +kernel
theorem dX8_copy_65 : decode cX8_copy 65 = .ok (.if_icmp .eq 9, 3) := by decide +kernel
theorem dX8_copy_68 : decode cX8_copy 68 = .ok (.aload_n 0, 1) := by decide +kernel
theorem dX8_copy_69 : decode cX8_copy 69 = .ok (.iconst 5, 1) := by decide +kernel
theorem dX8_copy_70 : decode cX8_copy 70 = .ok (.invokevirtual 67, 3) := by decide +kernel
theorem dX8_copy_73 : decode cX8_copy 73 = .ok (.ireturn, 1) := by decide +kernel
theorem dX8_copy_74 : decode cX8_copy 74 = .ok (.aload 6, 2) := by decide +kernel
theorem dX8_copy_76 : decode cX8_copy 76 = .ok (.iload_n 2, 1) := by decide +kernel
theorem dX8_copy_77 : decode cX8_copy 77 = .ok (.iload 5, 2) := by decide +kernel
theorem dX8_copy_79 : decode cX8_copy 79 = .ok (.invokevirtual 82, 3) := by decide +kernel
theorem dX8_copy_82 : decode cX8_copy 82 = .ok (.ifCond .eq 15, 3) := by decide +kernel
theorem dX8_copy_85 : decode cX8_copy 85 = .ok (.aload 7, 2) := by decide +kernel
theorem dX8_copy_87 : decode cX8_copy 87 = .ok (.iload 4, 2) := by decide +kernel
theorem dX8_copy_89 : decode cX8_copy 89 = .ok (.iload 5, 2) := by decide +kernel
theorem dX8_copy_91 : decode cX8_copy 91 = .ok (.invokevirtual 82, 3) := by decide +kernel
theorem dX8_copy_94 : decode cX8_copy 94 = .ok (.ifCond .ne 9, 3) := by decide +kernel
theorem dX8_copy_97 : decode cX8_copy 97 = .ok (.aload_n 0, 1) := by decide +kernel
theorem dX8_copy_98 : decode cX8_copy 98 = .ok (.iconst 2, 1) := by decide +kernel
theorem dX8_copy_99 : decode cX8_copy 99 = .ok (.invokevirtual 67, 3) := by decide +kernel
theorem dX8_copy_102 : decode cX8_copy 102 = .ok (.ireturn, 1) := by decide +kernel
theorem dX8_copy_103 : decode cX8_copy 103 = .ok (.aload 6, 2) := by decide +kernel
theorem dX8_copy_105 : decode cX8_copy 105 = .ok (.getfield 86, 3) := by decide +kernel
theorem dX8_copy_108 : decode cX8_copy 108 = .ok (.iload_n 2, 1) := by decide +kernel
theorem dX8_copy_109 : decode cX8_copy 109 = .ok (.aload 7, 2) := by decide +kernel
theorem dX8_copy_111 : decode cX8_copy 111 = .ok (.getfield 86, 3) := by decide +kernel
theorem dX8_copy_114 : decode cX8_copy 114 = .ok (.iload 4, 2) := by decide +kernel
theorem dX8_copy_116 : decode cX8_copy 116 = .ok (.iload 5, 2) := by decide +kernel
theorem dX8_copy_118 : decode cX8_copy 118 = .ok (.invokestatic 97, 3) := by decide +kernel
theorem dX8_copy_121 : decode cX8_copy 121 = .ok (.aload_n 0, 1) := by decide +kernel
theorem dX8_copy_122 : decode cX8_copy 122 = .ok (.iload 5, 2) := by decide +kernel
theorem dX8_copy_124 : decode cX8_copy 124 = .ok (.invokevirtual 75, 3) := by decide +kernel
theorem dX8_copy_127 : decode cX8_copy 127 = .ok (.ireturn, 1) := by decide +kernel
theorem dX8_drop_0 : decode cX8_drop 0 = .ok (.iload_n 1, 1) := by decide +kernel
theorem dX8_drop_1 : decode cX8_drop 1 = .ok (.invokestatic 58, 3) := by decide +kernel
theorem dX8_drop_4 : decode cX8_drop 4 = .ok (.ifCond .ne 6, 3) := by decide +kernel
theorem dX8_drop_7 : decode cX8_drop 7 = .ok (.ldc 66, 2) := by decide +kernel
theorem dX8_drop_9 : decode cX8_drop 9 = .ok (.ireturn, 1) := by decide +kernel
theorem dX8_drop_10 : decode cX8_drop 10 = .ok (.aload_n 0, 1) := by decide +kernel
theorem dX8_drop_11 : decode cX8_drop 11 = .ok (.getfield 11, 3) := by decide +kernel
theorem dX8_drop_14 : decode cX8_drop 14 = .ok (.iload_n 1, 1) := by decide +kernel
theorem dX8_drop_15 : decode cX8_drop 15 = .ok (.aaload, 1) := by decide +kernel
theorem dX8_drop_16 : decode cX8_drop 16 = .ok (.astore_n 2, 1) := by decide +kernel
theorem dX8_drop_17 : decode cX8_drop 17 = .ok (.aload_n 2, 1) := by decide +kernel
theorem dX8_drop_18 : decode cX8_drop 18 = .ok (.getfield 78, 3) := by decide +kernel
theorem dX8_drop_21 : decode cX8_drop 21 = .ok (.ifCond .eq 9, 3) := by decide +kernel
theorem dX8_drop_24 : decode cX8_drop 24 = .ok (.aload_n 0, 1) := by decide +kernel
theorem dX8_drop_25 : decode cX8_drop 25 = .ok (.iconst 1, 1) := by decide +kernel
theorem dX8_drop_26 : decode cX8_drop 26 = .ok (.invokevirtual 67, 3) := by decide +kernel
theorem dX8_drop_29 : decode cX8_drop 29 = .ok (.ireturn, 1) := by decide +kernel
theorem dX8_drop_30 : decode cX8_drop 30 = .ok (.aload_n 2, 1) := by decide +kernel
theorem dX8_drop_31 : decode cX8_drop 31 = .ok (.iconst 1, 1) := by decide +kernel
theorem dX8_drop_32 : decode cX8_drop 32 = .ok (.putfield 78, 3) := by decide +kernel
theorem dX8_drop_35 : decode cX8_drop 35 = .ok (.aload_n 0, 1) := by decide +kernel
theorem dX8_drop_36 : decode cX8_drop 36 = .ok (.aload_n 2, 1) := by decide +kernel
theorem dX8_drop_37 : decode cX8_drop 37 = .ok (.getfield 103, 3) := by decide +kernel
theorem dX8_drop_40 : decode cX8_drop 40 = .ok (.invokevirtual 75, 3) := by decide +kernel
theorem dX8_drop_43 : decode cX8_drop 43 = .ok (.ireturn, 1) := by decide +kernel
theorem dX8_feed_0 : decode cX8_feed 0 = .ok (.iload_n 1, 1) := by decide +kernel
theorem dX8_feed_1 : decode cX8_feed 1 = .ok (.iconst 0, 1) := by decide +kernel
theorem dX8_feed_2 : decode cX8_feed 2 = .ok (.sipush 255, 3) := by decide +kernel
theorem dX8_feed_5 : decode cX8_feed 5 = .ok (.invokestatic 62, 3) := by decide +kernel
theorem dX8_feed_8 : decode cX8_feed 8 = .ok (.ifCond .ne 6, 3) := by decide +kernel
theorem dX8_feed_11 : decode cX8_feed 11 = .ok (.ldc 66, 2) := by decide +kernel
theorem dX8_feed_13 : decode cX8_feed 13 = .ok (.ireturn, 1) := by decide +kernel
theorem dX8_feed_14 : decode cX8_feed 14 = .ok (.aload_n 0, 1) := by decide +kernel
theorem dX8_feed_15 : decode cX8_feed 15 = .ok (.getfield 18, 3) := by decide +kernel
theorem dX8_feed_18 : decode cX8_feed 18 = .ok (.iload_n 1, 1) := by decide +kernel
theorem dX8_feed_19 : decode cX8_feed 19 = .ok (.invokevirtual 106, 3) := by decide +kernel
theorem dX8_feed_22 : decode cX8_feed 22 = .ok (.ifCond .eq 13, 3) := by decide +kernel
theorem dX8_feed_25 : decode cX8_feed 25 = .ok (.aload_n 0, 1) := by decide +kernel
theorem dX8_feed_26 : decode cX8_feed 26 = .ok (.getfield 18, 3) := by decide +kernel
theorem dX8_feed_29 : decode cX8_feed 29 = .ok (.getfield 109, 3) := by decide +kernel
theorem dX8_feed_32 : decode cX8_feed 32 = .ok (.goto 5, 3) := by decide +kernel
theorem dX8_feed_35 : decode cX8_feed 35 = .ok (.ldc 110, 2) := by decide +kernel
theorem dX8_feed_37 : decode cX8_feed 37 = .ok (.ireturn, 1) := by decide +kernel
theorem dX8_hill_0 : decode cX8_hill 0 = .ok (.aload_n 0, 1) := by decide +kernel
theorem dX8_hill_1 : decode cX8_hill 1 = .ok (.getfield 18, 3) := by decide +kernel
theorem dX8_hill_4 : decode cX8_hill 4 = .ok (.aload_n 0, 1) := by decide +kernel
theorem dX8_hill_5 : decode cX8_hill 5 = .ok (.getfield 29, 3) := by decide +kernel
theorem dX8_hill_8 : decode cX8_hill 8 = .ok (.invokevirtual 111, 3) := by decide +kernel
theorem dX8_hill_11 : decode cX8_hill 11 = .ok (.istore_n 1, 1) := by decide +kernel
theorem dX8_hill_12 : decode cX8_hill 12 = .ok (.aload_n 0, 1) := by decide +kernel
theorem dX8_hill_13 : decode cX8_hill 13 = .ok (.getfield 18, 3) := by decide +kernel
theorem dX8_hill_16 : decode cX8_hill 16 = .ok (.iconst 0, 1) := by decide +kernel
theorem dX8_hill_17 : decode cX8_hill 17 = .ok (.putfield 109, 3) := by decide +kernel
theorem dX8_hill_20 : decode cX8_hill 20 = .ok (.iload_n 1, 1) := by decide +kernel
theorem dX8_hill_21 : decode cX8_hill 21 = .ok (.ifCond .ne 25, 3) := by decide +kernel
theorem dX8_hill_24 : decode cX8_hill 24 = .ok (.aload_n 0, 1) := by decide +kernel
theorem dX8_hill_25 : decode cX8_hill 25 = .ok (.aload_n 0, 1) := by decide +kernel
theorem dX8_hill_26 : decode cX8_hill 26 = .ok (.getfield 18, 3) := by decide +kernel
theorem dX8_hill_29 : decode cX8_hill 29 = .ok (.getfield 115, 3) := by decide +kernel
theorem dX8_hill_32 : decode cX8_hill 32 = .ok (.putfield 118, 3) := by decide +kernel
theorem dX8_hill_35 : decode cX8_hill 35 = .ok (.ldc 121, 2) := by decide +kernel
theorem dX8_hill_37 : decode cX8_hill 37 = .ok (.aload_n 0, 1) := by decide +kernel
theorem dX8_hill_38 : decode cX8_hill 38 = .ok (.getfield 18, 3) := by decide +kernel
theorem dX8_hill_41 : decode cX8_hill 41 = .ok (.getfield 122, 3) := by decide +kernel
theorem dX8_hill_44 : decode cX8_hill 44 = .ok (.isub, 1) := by decide +kernel
theorem dX8_hill_45 : decode cX8_hill 45 = .ok (.ireturn, 1) := by decide +kernel
theorem dX8_hill_46 : decode cX8_hill 46 = .ok (.aload_n 0, 1) := by decide +kernel
theorem dX8_hill_47 : decode cX8_hill 47 = .ok (.getfield 25, 3) := by decide +kernel
theorem dX8_hill_50 : decode cX8_hill 50 = .ok (.aload_n 0, 1) := by decide +kernel
theorem dX8_hill_51 : decode cX8_hill 51 = .ok (.getfield 29, 3) := by decide +kernel
theorem dX8_hill_54 : decode cX8_hill 54 = .ok (.invokevirtual 125, 3) := by decide +kernel
theorem dX8_hill_57 : decode cX8_hill 57 = .ok (.aload_n 0, 1) := by decide +kernel
theorem dX8_hill_58 : decode cX8_hill 58 = .ok (.getfield 39, 3) := by decide +kernel
theorem dX8_hill_61 : decode cX8_hill 61 = .ok (.iconst 0, 1) := by decide +kernel
theorem dX8_hill_62 : decode cX8_hill 62 = .ok (.putfield 129, 3) := by decide +kernel
theorem dX8_hill_65 : decode cX8_hill 65 = .ok (.aload_n 0, 1) := by decide +kernel
theorem dX8_hill_66 : decode cX8_hill 66 = .ok (.getfield 25, 3) := by decide +kernel
theorem dX8_hill_69 : decode cX8_hill 69 = .ok (.getfield 132, 3) := by decide +kernel
theorem dX8_hill_72 : decode cX8_hill 72 = .ok (.ireturn, 1) := by decide +kernel
theorem dX8_fault_0 : decode cX8_fault 0 = .ok (.aload_n 0, 1) := by decide +kernel
theorem dX8_fault_1 : decode cX8_fault 1 = .ok (.getfield 118, 3) := by decide +kernel
theorem dX8_fault_4 : decode cX8_fault 4 = .ok (.ireturn, 1) := by decide +kernel
theorem dX8_years_0 : decode cX8_years 0 = .ok (.aload_n 0, 1) := by decide +kernel
theorem dX8_years_1 : decode cX8_years 1 = .ok (.getfield 25, 3) := by decide +kernel
theorem dX8_years_4 : decode cX8_years 4 = .ok (.getfield 135, 3) := by decide +kernel
theorem dX8_years_7 : decode cX8_years 7 = .ok (.ifCond .ne 6, 3) := by decide +kernel
theorem dX8_years_10 : decode cX8_years 10 = .ok (.ldc 138, 2) := by decide +kernel
theorem dX8_years_12 : decode cX8_years 12 = .ok (.ireturn, 1) := by decide +kernel
theorem dX8_years_13 : decode cX8_years 13 = .ok (.iload_n 1, 1) := by decide +kernel
theorem dX8_years_14 : decode cX8_years 14 = .ok (.iconst 1, 1) := by decide +kernel
theorem dX8_years_15 : decode cX8_years 15 = .ok (.bipush 24, 2) := by decide +kernel
theorem dX8_years_17 : decode cX8_years 17 = .ok (.invokestatic 62, 3) := by decide +kernel
theorem dX8_years_20 : decode cX8_years 20 = .ok (.ifCond .ne 6, 3) := by decide +kernel
theorem dX8_years_23 : decode cX8_years 23 = .ok (.ldc 66, 2) := by decide +kernel
theorem dX8_years_25 : decode cX8_years 25 = .ok (.ireturn, 1) := by decide +kernel
theorem dX8_years_26 : decode cX8_years 26 = .ok (.aload_n 0, 1) := by decide +kernel
theorem dX8_years_27 : decode cX8_years 27 = .ok (.getfield 25, 3) := by decide +kernel
theorem dX8_years_30 : decode cX8_years 30 = .ok (.getfield 139, 3) := by decide +kernel
theorem dX8_years_33 : decode cX8_years 33 = .ok (.iload_n 1, 1) := by decide +kernel
theorem dX8_years_34 : decode cX8_years 34 = .ok (.iadd, 1) := by decide +kernel
theorem dX8_years_35 : decode cX8_years 35 = .ok (.sipush 999, 3) := by decide +kernel
theorem dX8_years_38 : decode cX8_years 38 = .ok (.if_icmp .le 6, 3) := by decide +kernel
theorem dX8_years_41 : decode cX8_years 41 = .ok (.ldc 110, 2) := by decide +kernel
theorem dX8_years_43 : decode cX8_years 43 = .ok (.ireturn, 1) := by decide +kernel
theorem dX8_years_44 : decode cX8_years 44 = .ok (.iconst (-1), 1) := by decide +kernel
theorem dX8_years_45 : decode cX8_years 45 = .ok (.istore_n 2, 1) := by decide +kernel
theorem dX8_years_46 : decode cX8_years 46 = .ok (.iconst 0, 1) := by decide +kernel
theorem dX8_years_47 : decode cX8_years 47 = .ok (.istore_n 3, 1) := by decide +kernel
theorem dX8_years_48 : decode cX8_years 48 = .ok (.iload_n 3, 1) := by decide +kernel
theorem dX8_years_49 : decode cX8_years 49 = .ok (.iload_n 1, 1) := by decide +kernel
theorem dX8_years_50 : decode cX8_years 50 = .ok (.if_icmp .ge 27, 3) := by decide +kernel
theorem dX8_years_53 : decode cX8_years 53 = .ok (.aload_n 0, 1) := by decide +kernel
theorem dX8_years_54 : decode cX8_years 54 = .ok (.getfield 25, 3) := by decide +kernel
theorem dX8_years_57 : decode cX8_years 57 = .ok (.invokevirtual 142, 3) := by decide +kernel
theorem dX8_years_60 : decode cX8_years 60 = .ok (.istore_n 2, 1) := by decide +kernel
theorem dX8_years_61 : decode cX8_years 61 = .ok (.aload_n 0, 1) := by decide +kernel
theorem dX8_years_62 : decode cX8_years 62 = .ok (.getfield 39, 3) := by decide +kernel
theorem dX8_years_65 : decode cX8_years 65 = .ok (.iconst 0, 1) := by decide +kernel
theorem dX8_years_66 : decode cX8_years 66 = .ok (.iload_n 2, 1) := by decide +kernel
theorem dX8_years_67 : decode cX8_years 67 = .ok (.iconst 0, 1) := by decide +kernel
theorem dX8_years_68 : decode cX8_years 68 = .ok (.invokevirtual 146, 3) := by decide +kernel
theorem dX8_years_71 : decode cX8_years 71 = .ok (.iinc 3 1, 3) := by decide +kernel
theorem dX8_years_74 : decode cX8_years 74 = .ok (.goto (-26), 3) := by decide +kernel
theorem dX8_years_77 : decode cX8_years 77 = .ok (.iload_n 2, 1) := by decide +kernel
theorem dX8_years_78 : decode cX8_years 78 = .ok (.invokestatic 150, 3) := by decide +kernel
theorem dX8_years_81 : decode cX8_years 81 = .ok (.ireturn, 1) := by decide +kernel
theorem dX8_door_0 : decode cX8_door 0 = .ok (.aload_n 0, 1) := by decide +kernel
theorem dX8_door_1 : decode cX8_door 1 = .ok (.iload_n 1, 1) := by decide +kernel
theorem dX8_door_2 : decode cX8_door 2 = .ok (.invokevirtual 153, 3) := by decide +kernel
theorem dX8_door_5 : decode cX8_door 5 = .ok (.ifCond .eq 12, 3) := by decide +kernel
theorem dX8_door_8 : decode cX8_door 8 = .ok (.iload_n 2, 1) := by decide +kernel
theorem dX8_door_9 : decode cX8_door 9 = .ok (.iconst 0, 1) := by decide +kernel
theorem dX8_door_10 : decode cX8_door 10 = .ok (.iconst 1, 1) := by decide +kernel
theorem dX8_door_11 : decode cX8_door 11 = .ok (.invokestatic 62, 3) := by decide +kernel
theorem dX8_door_14 : decode cX8_door 14 = .ok (.ifCond .ne 6, 3) := by decide +kernel
theorem dX8_door_17 : decode cX8_door 17 = .ok (.ldc 66, 2) := by decide +kernel
theorem dX8_door_19 : decode cX8_door 19 = .ok (.ireturn, 1) := by decide +kernel
theorem dX8_door_20 : decode cX8_door 20 = .ok (.aload_n 0, 1) := by decide +kernel
theorem dX8_door_21 : decode cX8_door 21 = .ok (.getfield 25, 3) := by decide +kernel
theorem dX8_door_24 : decode cX8_door 24 = .ok (.iload_n 1, 1) := by decide +kernel
theorem dX8_door_25 : decode cX8_door 25 = .ok (.invokevirtual 156, 3) := by decide +kernel
theorem dX8_door_28 : decode cX8_door 28 = .ok (.iload_n 2, 1) := by decide +kernel
theorem dX8_door_29 : decode cX8_door 29 = .ok (.if_icmp .ne 6, 3) := by decide +kernel
theorem dX8_door_32 : decode cX8_door 32 = .ok (.ldc 138, 2) := by decide +kernel
theorem dX8_door_34 : decode cX8_door 34 = .ok (.ireturn, 1) := by decide +kernel
theorem dX8_door_35 : decode cX8_door 35 = .ok (.aload_n 0, 1) := by decide +kernel
theorem dX8_door_36 : decode cX8_door 36 = .ok (.getfield 25, 3) := by decide +kernel
theorem dX8_door_39 : decode cX8_door 39 = .ok (.dup, 1) := by decide +kernel
theorem dX8_door_40 : decode cX8_door 40 = .ok (.getfield 159, 3) := by decide +kernel
theorem dX8_door_43 : decode cX8_door 43 = .ok (.iconst 1, 1) := by decide +kernel
theorem dX8_door_44 : decode cX8_door 44 = .ok (.iload_n 1, 1) := by decide +kernel
theorem dX8_door_45 : decode cX8_door 45 = .ok (.ishl, 1) := by decide +kernel
theorem dX8_door_46 : decode cX8_door 46 = .ok (.ixor, 1) := by decide +kernel
theorem dX8_door_47 : decode cX8_door 47 = .ok (.putfield 159, 3) := by decide +kernel
theorem dX8_door_50 : decode cX8_door 50 = .ok (.aload_n 0, 1) := by decide +kernel
theorem dX8_door_51 : decode cX8_door 51 = .ok (.getfield 39, 3) := by decide +kernel
theorem dX8_door_54 : decode cX8_door 54 = .ok (.iconst 1, 1) := by decide +kernel
theorem dX8_door_55 : decode cX8_door 55 = .ok (.iload_n 1, 1) := by decide +kernel
theorem dX8_door_56 : decode cX8_door 56 = .ok (.iconst 0, 1) := by decide +kernel
theorem dX8_door_57 : decode cX8_door 57 = .ok (.invokevirtual 146, 3) := by decide +kernel
theorem dX8_door_60 : decode cX8_door 60 = .ok (.aload_n 0, 1) := by decide +kernel
theorem dX8_door_61 : decode cX8_door 61 = .ok (.getfield 25, 3) := by decide +kernel
theorem dX8_door_64 : decode cX8_door 64 = .ok (.getfield 159, 3) := by decide +kernel
theorem dX8_door_67 : decode cX8_door 67 = .ok (.ireturn, 1) := by decide +kernel
theorem dX8_build_0 : decode cX8_build 0 = .ok (.aload_n 0, 1) := by decide +kernel
theorem dX8_build_1 : decode cX8_build 1 = .ok (.iload_n 1, 1) := by decide +kernel
theorem dX8_build_2 : decode cX8_build 2 = .ok (.invokevirtual 153, 3) := by decide +kernel
theorem dX8_build_5 : decode cX8_build 5 = .ok (.ifCond .eq 12, 3) := by decide +kernel
theorem dX8_build_8 : decode cX8_build 8 = .ok (.aload_n 0, 1) := by decide +kernel
theorem dX8_build_9 : decode cX8_build 9 = .ok (.iload_n 2, 1) := by decide +kernel
theorem dX8_build_10 : decode cX8_build 10 = .ok (.iload_n 3, 1) := by decide +kernel
theorem dX8_build_11 : decode cX8_build 11 = .ok (.invokevirtual 162, 3) := by decide +kernel
theorem dX8_build_14 : decode cX8_build 14 = .ok (.ifCond .ne 6, 3) := by decide +kernel
theorem dX8_build_17 : decode cX8_build 17 = .ok (.ldc 66, 2) := by decide +kernel
theorem dX8_build_19 : decode cX8_build 19 = .ok (.ireturn, 1) := by decide +kernel
theorem dX8_build_20 : decode cX8_build 20 = .ok (.aload_n 0, 1) := by decide +kernel
theorem dX8_build_21 : decode cX8_build 21 = .ok (.getfield 25, 3) := by decide +kernel
theorem dX8_build_24 : decode cX8_build 24 = .ok (.iload_n 2, 1) := by decide +kernel
theorem dX8_build_25 : decode cX8_build 25 = .ok (.iload_n 3, 1) := by decide +kernel
theorem dX8_build_26 : decode cX8_build 26 = .ok (.invokevirtual 165, 3) := by decide +kernel
theorem dX8_build_29 : decode cX8_build 29 = .ok (.ifCond .lt 6, 3) := by decide +kernel
theorem dX8_build_32 : decode cX8_build 32 = .ok (.ldc 138, 2) := by decide +kernel
theorem dX8_build_34 : decode cX8_build 34 = .ok (.ireturn, 1) := by decide +kernel
theorem dX8_build_35 : decode cX8_build 35 = .ok (.aload_n 0, 1) := by decide +kernel
theorem dX8_build_36 : decode cX8_build 36 = .ok (.getfield 25, 3) := by decide +kernel
theorem dX8_build_39 : decode cX8_build 39 = .ok (.getfield 169, 3) := by decide +kernel
theorem dX8_build_42 : decode cX8_build 42 = .ok (.iload_n 1, 1) := by decide +kernel
theorem dX8_build_43 : decode cX8_build 43 = .ok (.aaload, 1) := by decide +kernel
theorem dX8_build_44 : decode cX8_build 44 = .ok (.invokevirtual 173, 3) := by decide +kernel
theorem dX8_build_47 : decode cX8_build 47 = .ok (.istore 4, 2) := by decide +kernel
theorem dX8_build_49 : decode cX8_build 49 = .ok (.aload_n 0, 1) := by decide +kernel
theorem dX8_build_50 : decode cX8_build 50 = .ok (.getfield 25, 3) := by decide +kernel
theorem dX8_build_53 : decode cX8_build 53 = .ok (.getfield 169, 3) := by decide +kernel
theorem dX8_build_56 : decode cX8_build 56 = .ok (.iload_n 1, 1) := by decide +kernel
theorem dX8_build_57 : decode cX8_build 57 = .ok (.aaload, 1) := by decide +kernel
theorem dX8_build_58 : decode cX8_build 58 = .ok (.iload_n 2, 1) := by decide +kernel
theorem dX8_build_59 : decode cX8_build 59 = .ok (.iload_n 3, 1) := by decide +kernel
theorem dX8_build_60 : decode cX8_build 60 = .ok (.invokevirtual 178, 3) := by decide +kernel
theorem dX8_build_63 : decode cX8_build 63 = .ok (.aload_n 0, 1) := by decide +kernel
theorem dX8_build_64 : decode cX8_build 64 = .ok (.getfield 39, 3) := by decide +kernel
theorem dX8_build_67 : decode cX8_build 67 = .ok (.iconst 2, 1) := by decide +kernel
theorem dX8_build_68 : decode cX8_build 68 = .ok (.iload_n 1, 1) := by decide +kernel
theorem dX8_build_69 : decode cX8_build 69 = .ok (.iload 4, 2) := by decide +kernel
theorem dX8_build_71 : decode cX8_build 71 = .ok (.invokevirtual 146, 3) := by decide +kernel
theorem dX8_build_74 : decode cX8_build 74 = .ok (.iload 4, 2) := by decide +kernel
theorem dX8_build_76 : decode cX8_build 76 = .ok (.ireturn, 1) := by decide +kernel
theorem dX8_speed_0 : decode cX8_speed 0 = .ok (.aload_n 0, 1) := by decide +kernel
theorem dX8_speed_1 : decode cX8_speed 1 = .ok (.getfield 25, 3) := by decide +kernel
theorem dX8_speed_4 : decode cX8_speed 4 = .ok (.getfield 135, 3) := by decide +kernel
theorem dX8_speed_7 : decode cX8_speed 7 = .ok (.ifCond .ne 6, 3) := by decide +kernel
theorem dX8_speed_10 : decode cX8_speed 10 = .ok (.ldc 138, 2) := by decide +kernel
theorem dX8_speed_12 : decode cX8_speed 12 = .ok (.ireturn, 1) := by decide +kernel
theorem dX8_speed_13 : decode cX8_speed 13 = .ok (.iload_n 1, 1) := by decide +kernel
theorem dX8_speed_14 : decode cX8_speed 14 = .ok (.iconst 1, 1) := by decide +kernel
theorem dX8_speed_15 : decode cX8_speed 15 = .ok (.bipush 9, 2) := by decide +kernel
theorem dX8_speed_17 : decode cX8_speed 17 = .ok (.invokestatic 62, 3) := by decide +kernel
theorem dX8_speed_20 : decode cX8_speed 20 = .ok (.ifCond .ne 6, 3) := by decide +kernel
theorem dX8_speed_23 : decode cX8_speed 23 = .ok (.ldc 66, 2) := by decide +kernel
theorem dX8_speed_25 : decode cX8_speed 25 = .ok (.ireturn, 1) := by decide +kernel
theorem dX8_speed_26 : decode cX8_speed 26 = .ok (.aload_n 0, 1) := by decide +kernel
theorem dX8_speed_27 : decode cX8_speed 27 = .ok (.getfield 25, 3) := by decide +kernel
theorem dX8_speed_30 : decode cX8_speed 30 = .ok (.getfield 181, 3) := by decide +kernel
theorem dX8_speed_33 : decode cX8_speed 33 = .ok (.istore_n 2, 1) := by decide +kernel
theorem dX8_speed_34 : decode cX8_speed 34 = .ok (.aload_n 0, 1) := by decide +kernel
theorem dX8_speed_35 : decode cX8_speed 35 = .ok (.getfield 25, 3) := by decide +kernel
theorem dX8_speed_38 : decode cX8_speed 38 = .ok (.iload_n 1, 1) := by decide +kernel
theorem dX8_speed_39 : decode cX8_speed 39 = .ok (.putfield 181, 3) := by decide +kernel
theorem dX8_speed_42 : decode cX8_speed 42 = .ok (.aload_n 0, 1) := by decide +kernel
theorem dX8_speed_43 : decode cX8_speed 43 = .ok (.getfield 39, 3) := by decide +kernel
theorem dX8_speed_46 : decode cX8_speed 46 = .ok (.iconst 3, 1) := by decide +kernel
theorem dX8_speed_47 : decode cX8_speed 47 = .ok (.iconst (-1), 1) := by decide +kernel
theorem dX8_speed_48 : decode cX8_speed 48 = .ok (.iload_n 2, 1) := by decide +kernel
theorem dX8_speed_49 : decode cX8_speed 49 = .ok (.invokevirtual 146, 3) := by decide +kernel
theorem dX8_speed_52 : decode cX8_speed 52 = .ok (.iload_n 2, 1) := by decide +kernel
theorem dX8_speed_53 : decode cX8_speed 53 = .ok (.ireturn, 1) := by decide +kernel
theorem dX8_undo_0 : decode cX8_undo 0 = .ok (.aload_n 0, 1) := by decide +kernel
theorem dX8_undo_1 : decode cX8_undo 1 = .ok (.getfield 39, 3) := by decide +kernel
theorem dX8_undo_4 : decode cX8_undo 4 = .ok (.getfield 129, 3) := by decide +kernel
theorem dX8_undo_7 : decode cX8_undo 7 = .ok (.iconst 1, 1) := by decide +kernel
theorem dX8_undo_8 : decode cX8_undo 8 = .ok (.if_icmp .ge 6, 3) := by decide +kernel
theorem dX8_undo_11 : decode cX8_undo 11 = .ok (.ldc 138, 2) := by decide +kernel
theorem dX8_undo_13 : decode cX8_undo 13 = .ok (.ireturn, 1) := by decide +kernel
theorem dX8_undo_14 : decode cX8_undo 14 = .ok (.aload_n 0, 1) := by decide +kernel
theorem dX8_undo_15 : decode cX8_undo 15 = .ok (.getfield 39, 3) := by decide +kernel
theorem dX8_undo_18 : decode cX8_undo 18 = .ok (.aload_n 0, 1) := by decide +kernel
theorem dX8_undo_19 : decode cX8_undo 19 = .ok (.getfield 25, 3) := by decide +kernel
theorem dX8_undo_22 : decode cX8_undo 22 = .ok (.invokevirtual 184, 3) := by decide +kernel
theorem dX8_undo_25 : decode cX8_undo 25 = .ok (.aload_n 0, 1) := by decide +kernel
theorem dX8_undo_26 : decode cX8_undo 26 = .ok (.getfield 39, 3) := by decide +kernel
theorem dX8_undo_29 : decode cX8_undo 29 = .ok (.getfield 129, 3) := by decide +kernel
theorem dX8_undo_32 : decode cX8_undo 32 = .ok (.ireturn, 1) := by decide +kernel
theorem dX8_house_0 : decode cX8_house 0 = .ok (.aload_n 0, 1) := by decide +kernel
theorem dX8_house_1 : decode cX8_house 1 = .ok (.iload_n 1, 1) := by decide +kernel
theorem dX8_house_2 : decode cX8_house 2 = .ok (.invokevirtual 153, 3) := by decide +kernel
theorem dX8_house_5 : decode cX8_house 5 = .ok (.ifCond .ne 6, 3) := by decide +kernel
theorem dX8_house_8 : decode cX8_house 8 = .ok (.ldc 66, 2) := by decide +kernel
theorem dX8_house_10 : decode cX8_house 10 = .ok (.ireturn, 1) := by decide +kernel
theorem dX8_house_11 : decode cX8_house 11 = .ok (.aload_n 0, 1) := by decide +kernel
theorem dX8_house_12 : decode cX8_house 12 = .ok (.getfield 25, 3) := by decide +kernel
theorem dX8_house_15 : decode cX8_house 15 = .ok (.getfield 169, 3) := by decide +kernel
theorem dX8_house_18 : decode cX8_house 18 = .ok (.iload_n 1, 1) := by decide +kernel
theorem dX8_house_19 : decode cX8_house 19 = .ok (.aaload, 1) := by decide +kernel
theorem dX8_house_20 : decode cX8_house 20 = .ok (.astore_n 3, 1) := by decide +kernel
theorem dX8_house_21 : decode cX8_house 21 = .ok (.iload_n 2, 1) := by decide +kernel
theorem dX8_house_22 : decode cX8_house 22 = .ok (.tableswitch 63 0 4 #[34, 39, 44, 49, 58], 34) := by decide +kernel
theorem dX8_house_56 : decode cX8_house 56 = .ok (.aload_n 3, 1) := by decide +kernel
theorem dX8_house_57 : decode cX8_house 57 = .ok (.getfield 187, 3) := by decide +kernel
theorem dX8_house_60 : decode cX8_house 60 = .ok (.ireturn, 1) := by decide +kernel
theorem dX8_house_61 : decode cX8_house 61 = .ok (.aload_n 3, 1) := by decide +kernel
theorem dX8_house_62 : decode cX8_house 62 = .ok (.getfield 190, 3) := by decide +kernel
theorem dX8_house_65 : decode cX8_house 65 = .ok (.ireturn, 1) := by decide +kernel
theorem dX8_house_66 : decode cX8_house 66 = .ok (.aload_n 3, 1) := by decide +kernel
theorem dX8_house_67 : decode cX8_house 67 = .ok (.getfield 193, 3) := by decide +kernel
theorem dX8_house_70 : decode cX8_house 70 = .ok (.ireturn, 1) := by decide +kernel
theorem dX8_house_71 : decode cX8_house 71 = .ok (.aload_n 0, 1) := by decide +kernel
theorem dX8_house_72 : decode cX8_house 72 = .ok (.getfield 25, 3) := by decide +kernel
theorem dX8_house_75 : decode cX8_house 75 = .ok (.iload_n 1, 1) := by decide +kernel
theorem dX8_house_76 : decode cX8_house 76 = .ok (.invokevirtual 156, 3) := by decide +kernel
theorem dX8_house_79 : decode cX8_house 79 = .ok (.ireturn, 1) := by decide +kernel
theorem dX8_house_80 : decode cX8_house 80 = .ok (.aload_n 3, 1) := by decide +kernel
theorem dX8_house_81 : decode cX8_house 81 = .ok (.getfield 196, 3) := by decide +kernel
theorem dX8_house_84 : decode cX8_house 84 = .ok (.ireturn, 1) := by decide +kernel
theorem dX8_house_85 : decode cX8_house 85 = .ok (.ldc 66, 2) := by decide +kernel
theorem dX8_house_87 : decode cX8_house 87 = .ok (.ireturn, 1) := by decide +kernel
theorem dX8_at_0 : decode cX8_at 0 = .ok (.aload_n 0, 1) := by decide +kernel
theorem dX8_at_1 : decode cX8_at 1 = .ok (.iload_n 1, 1) := by decide +kernel
theorem dX8_at_2 : decode cX8_at 2 = .ok (.iload_n 2, 1) := by decide +kernel
theorem dX8_at_3 : decode cX8_at 3 = .ok (.invokevirtual 162, 3) := by decide +kernel
theorem dX8_at_6 : decode cX8_at 6 = .ok (.ifCond .eq 18, 3) := by decide +kernel
theorem dX8_at_9 : decode cX8_at 9 = .ok (.aload_n 0, 1) := by decide +kernel
theorem dX8_at_10 : decode cX8_at 10 = .ok (.getfield 25, 3) := by decide +kernel
theorem dX8_at_13 : decode cX8_at 13 = .ok (.iload_n 1, 1) := by decide +kernel
theorem dX8_at_14 : decode cX8_at 14 = .ok (.iload_n 2, 1) := by decide +kernel
theorem dX8_at_15 : decode cX8_at 15 = .ok (.invokevirtual 165, 3) := by decide +kernel
theorem dX8_at_18 : decode cX8_at 18 = .ok (.invokestatic 150, 3) := by decide +kernel
theorem dX8_at_21 : decode cX8_at 21 = .ok (.goto 5, 3) := by decide +kernel
theorem dX8_at_24 : decode cX8_at 24 = .ok (.ldc 66, 2) := by decide +kernel
theorem dX8_at_26 : decode cX8_at 26 = .ok (.ireturn, 1) := by decide +kernel
theorem dX8_rests_0 : decode cX8_rests 0 = .ok (.aload_n 0, 1) := by decide +kernel
theorem dX8_rests_1 : decode cX8_rests 1 = .ok (.getfield 25, 3) := by decide +kernel
theorem dX8_rests_4 : decode cX8_rests 4 = .ok (.getfield 135, 3) := by decide +kernel
theorem dX8_rests_7 : decode cX8_rests 7 = .ok (.ifCond .ne 6, 3) := by decide +kernel
theorem dX8_rests_10 : decode cX8_rests 10 = .ok (.ldc 138, 2) := by decide +kernel
theorem dX8_rests_12 : decode cX8_rests 12 = .ok (.ireturn, 1) := by decide +kernel
theorem dX8_rests_13 : decode cX8_rests 13 = .ok (.iload_n 1, 1) := by decide +kernel
theorem dX8_rests_14 : decode cX8_rests 14 = .ok (.iconst 0, 1) := by decide +kernel
theorem dX8_rests_15 : decode cX8_rests 15 = .ok (.bipush 60, 2) := by decide +kernel
theorem dX8_rests_17 : decode cX8_rests 17 = .ok (.invokestatic 62, 3) := by decide +kernel
theorem dX8_rests_20 : decode cX8_rests 20 = .ok (.ifCond .eq 17, 3) := by decide +kernel
theorem dX8_rests_23 : decode cX8_rests 23 = .ok (.aload_n 0, 1) := by decide +kernel
theorem dX8_rests_24 : decode cX8_rests 24 = .ok (.getfield 25, 3) := by decide +kernel
theorem dX8_rests_27 : decode cX8_rests 27 = .ok (.iload_n 1, 1) := by decide +kernel
theorem dX8_rests_28 : decode cX8_rests 28 = .ok (.invokevirtual 199, 3) := by decide +kernel
theorem dX8_rests_31 : decode cX8_rests 31 = .ok (.invokestatic 150, 3) := by decide +kernel
theorem dX8_rests_34 : decode cX8_rests 34 = .ok (.goto 5, 3) := by decide +kernel
theorem dX8_rests_37 : decode cX8_rests 37 = .ok (.ldc 66, 2) := by decide +kernel
theorem dX8_rests_39 : decode cX8_rests 39 = .ok (.ireturn, 1) := by decide +kernel
theorem dX8_line_0 : decode cX8_line 0 = .ok (.aload_n 0, 1) := by decide +kernel
theorem dX8_line_1 : decode cX8_line 1 = .ok (.getfield 25, 3) := by decide +kernel
theorem dX8_line_4 : decode cX8_line 4 = .ok (.getfield 135, 3) := by decide +kernel
theorem dX8_line_7 : decode cX8_line 7 = .ok (.ifCond .ne 6, 3) := by decide +kernel
theorem dX8_line_10 : decode cX8_line 10 = .ok (.ldc 138, 2) := by decide +kernel
theorem dX8_line_12 : decode cX8_line 12 = .ok (.ireturn, 1) := by decide +kernel
theorem dX8_line_13 : decode cX8_line 13 = .ok (.iload_n 1, 1) := by decide +kernel
theorem dX8_line_14 : decode cX8_line 14 = .ok (.iconst 0, 1) := by decide +kernel
theorem dX8_line_15 : decode cX8_line 15 = .ok (.aload_n 0, 1) := by decide +kernel
theorem dX8_line_16 : decode cX8_line 16 = .ok (.getfield 25, 3) := by decide +kernel
theorem dX8_line_19 : decode cX8_line 19 = .ok (.getfield 202, 3) := by decide +kernel
theorem dX8_line_22 : decode cX8_line 22 = .ok (.invokestatic 62, 3) := by decide +kernel
theorem dX8_line_25 : decode cX8_line 25 = .ok (.ifCond .eq 13, 3) := by decide +kernel
theorem dX8_line_28 : decode cX8_line 28 = .ok (.iload_n 2, 1) := by decide +kernel
theorem dX8_line_29 : decode cX8_line 29 = .ok (.iconst 0, 1) := by decide +kernel
theorem dX8_line_30 : decode cX8_line 30 = .ok (.bipush 60, 2) := by decide +kernel
theorem dX8_line_32 : decode cX8_line 32 = .ok (.invokestatic 62, 3) := by decide +kernel
theorem dX8_line_35 : decode cX8_line 35 = .ok (.ifCond .ne 6, 3) := by decide +kernel
theorem dX8_line_38 : decode cX8_line 38 = .ok (.ldc 66, 2) := by decide +kernel
theorem dX8_line_40 : decode cX8_line 40 = .ok (.ireturn, 1) := by decide +kernel
theorem dX8_line_41 : decode cX8_line 41 = .ok (.aload_n 0, 1) := by decide +kernel
theorem dX8_line_42 : decode cX8_line 42 = .ok (.getfield 25, 3) := by decide +kernel
theorem dX8_line_45 : decode cX8_line 45 = .ok (.iload_n 2, 1) := by decide +kernel
theorem dX8_line_46 : decode cX8_line 46 = .ok (.invokevirtual 199, 3) := by decide +kernel
theorem dX8_line_49 : decode cX8_line 49 = .ok (.pop, 1) := by decide +kernel
theorem dX8_line_50 : decode cX8_line 50 = .ok (.iload_n 1, 1) := by decide +kernel
theorem dX8_line_51 : decode cX8_line 51 = .ok (.aload_n 0, 1) := by decide +kernel
theorem dX8_line_52 : decode cX8_line 52 = .ok (.getfield 25, 3) := by decide +kernel
theorem dX8_line_55 : decode cX8_line 55 = .ok (.getfield 205, 3) := by decide +kernel
theorem dX8_line_58 : decode cX8_line 58 = .ok (.getfield 209, 3) := by decide +kernel
theorem dX8_line_61 : decode cX8_line 61 = .ok (.if_icmp .gt 18, 3) := by decide +kernel
theorem dX8_line_64 : decode cX8_line 64 = .ok (.aload_n 0, 1) := by decide +kernel
theorem dX8_line_65 : decode cX8_line 65 = .ok (.getfield 25, 3) := by decide +kernel
theorem dX8_line_68 : decode cX8_line 68 = .ok (.getfield 205, 3) := by decide +kernel
theorem dX8_line_71 : decode cX8_line 71 = .ok (.getfield 214, 3) := by decide +kernel
theorem dX8_line_74 : decode cX8_line 74 = .ok (.iload_n 1, 1) := by decide +kernel
theorem dX8_line_75 : decode cX8_line 75 = .ok (.iaload, 1) := by decide +kernel
theorem dX8_line_76 : decode cX8_line 76 = .ok (.goto 5, 3) := by decide +kernel
theorem dX8_line_79 : decode cX8_line 79 = .ok (.ldc 217, 2) := by decide +kernel
theorem dX8_line_81 : decode cX8_line 81 = .ok (.ireturn, 1) := by decide +kernel
theorem dX8_left_0 : decode cX8_left 0 = .ok (.aload_n 0, 1) := by decide +kernel
theorem dX8_left_1 : decode cX8_left 1 = .ok (.getfield 25, 3) := by decide +kernel
theorem dX8_left_4 : decode cX8_left 4 = .ok (.getfield 135, 3) := by decide +kernel
theorem dX8_left_7 : decode cX8_left 7 = .ok (.ifCond .ne 6, 3) := by decide +kernel
theorem dX8_left_10 : decode cX8_left 10 = .ok (.ldc 138, 2) := by decide +kernel
theorem dX8_left_12 : decode cX8_left 12 = .ok (.ireturn, 1) := by decide +kernel
theorem dX8_left_13 : decode cX8_left 13 = .ok (.iload_n 1, 1) := by decide +kernel
theorem dX8_left_14 : decode cX8_left 14 = .ok (.iconst 0, 1) := by decide +kernel
theorem dX8_left_15 : decode cX8_left 15 = .ok (.bipush 60, 2) := by decide +kernel
theorem dX8_left_17 : decode cX8_left 17 = .ok (.invokestatic 62, 3) := by decide +kernel
theorem dX8_left_20 : decode cX8_left 20 = .ok (.ifCond .ne 6, 3) := by decide +kernel
theorem dX8_left_23 : decode cX8_left 23 = .ok (.ldc 66, 2) := by decide +kernel
theorem dX8_left_25 : decode cX8_left 25 = .ok (.ireturn, 1) := by decide +kernel
theorem dX8_left_26 : decode cX8_left 26 = .ok (.aload_n 0, 1) := by decide +kernel
theorem dX8_left_27 : decode cX8_left 27 = .ok (.getfield 25, 3) := by decide +kernel
theorem dX8_left_30 : decode cX8_left 30 = .ok (.iload_n 1, 1) := by decide +kernel
theorem dX8_left_31 : decode cX8_left 31 = .ok (.invokevirtual 199, 3) := by decide +kernel
theorem dX8_left_34 : decode cX8_left 34 = .ok (.pop, 1) := by decide +kernel
theorem dX8_left_35 : decode cX8_left 35 = .ok (.iconst 0, 1) := by decide +kernel
theorem dX8_left_36 : decode cX8_left 36 = .ok (.aload_n 0, 1) := by decide +kernel
theorem dX8_left_37 : decode cX8_left 37 = .ok (.getfield 25, 3) := by decide +kernel
theorem dX8_left_40 : decode cX8_left 40 = .ok (.getfield 205, 3) := by decide +kernel
theorem dX8_left_43 : decode cX8_left 43 = .ok (.getfield 218, 3) := by decide +kernel
theorem dX8_left_46 : decode cX8_left 46 = .ok (.invokestatic 219, 3) := by decide +kernel
theorem dX8_left_49 : decode cX8_left 49 = .ok (.ireturn, 1) := by decide +kernel
theorem dX8_next_0 : decode cX8_next 0 = .ok (.aload_n 0, 1) := by decide +kernel
theorem dX8_next_1 : decode cX8_next 1 = .ok (.iload_n 1, 1) := by decide +kernel
theorem dX8_next_2 : decode cX8_next 2 = .ok (.invokevirtual 153, 3) := by decide +kernel
theorem dX8_next_5 : decode cX8_next 5 = .ok (.ifCond .ne 6, 3) := by decide +kernel
theorem dX8_next_8 : decode cX8_next 8 = .ok (.ldc 66, 2) := by decide +kernel
theorem dX8_next_10 : decode cX8_next 10 = .ok (.ireturn, 1) := by decide +kernel
theorem dX8_next_11 : decode cX8_next 11 = .ok (.aload_n 0, 1) := by decide +kernel
theorem dX8_next_12 : decode cX8_next 12 = .ok (.getfield 25, 3) := by decide +kernel
theorem dX8_next_15 : decode cX8_next 15 = .ok (.iload_n 1, 1) := by decide +kernel
theorem dX8_next_16 : decode cX8_next 16 = .ok (.invokevirtual 224, 3) := by decide +kernel
theorem dX8_next_19 : decode cX8_next 19 = .ok (.invokestatic 150, 3) := by decide +kernel
theorem dX8_next_22 : decode cX8_next 22 = .ok (.ireturn, 1) := by decide +kernel
theorem dX8_often_0 : decode cX8_often 0 = .ok (.aload_n 0, 1) := by decide +kernel
theorem dX8_often_1 : decode cX8_often 1 = .ok (.iload_n 1, 1) := by decide +kernel
theorem dX8_often_2 : decode cX8_often 2 = .ok (.invokevirtual 153, 3) := by decide +kernel
theorem dX8_often_5 : decode cX8_often 5 = .ok (.ifCond .eq 13, 3) := by decide +kernel
theorem dX8_often_8 : decode cX8_often 8 = .ok (.iload_n 2, 1) := by decide +kernel
theorem dX8_often_9 : decode cX8_often 9 = .ok (.iconst 1, 1) := by decide +kernel
theorem dX8_often_10 : decode cX8_often 10 = .ok (.bipush 60, 2) := by decide +kernel
theorem dX8_often_12 : decode cX8_often 12 = .ok (.invokestatic 62, 3) := by decide +kernel
theorem dX8_often_15 : decode cX8_often 15 = .ok (.ifCond .ne 6, 3) := by decide +kernel
theorem dX8_often_18 : decode cX8_often 18 = .ok (.ldc 66, 2) := by decide +kernel
theorem dX8_often_20 : decode cX8_often 20 = .ok (.ireturn, 1) := by decide +kernel
theorem dX8_often_21 : decode cX8_often 21 = .ok (.aload_n 0, 1) := by decide +kernel
theorem dX8_often_22 : decode cX8_often 22 = .ok (.getfield 25, 3) := by decide +kernel
theorem dX8_often_25 : decode cX8_often 25 = .ok (.iload_n 1, 1) := by decide +kernel
theorem dX8_often_26 : decode cX8_often 26 = .ok (.iload_n 2, 1) := by decide +kernel
theorem dX8_often_27 : decode cX8_often 27 = .ok (.invokevirtual 227, 3) := by decide +kernel
theorem dX8_often_30 : decode cX8_often 30 = .ok (.ireturn, 1) := by decide +kernel
theorem dX8_aim_0 : decode cX8_aim 0 = .ok (.aload_n 0, 1) := by decide +kernel
theorem dX8_aim_1 : decode cX8_aim 1 = .ok (.iload_n 1, 1) := by decide +kernel
theorem dX8_aim_2 : decode cX8_aim 2 = .ok (.invokevirtual 153, 3) := by decide +kernel
theorem dX8_aim_5 : decode cX8_aim 5 = .ok (.ifCond .eq 22, 3) := by decide +kernel
end
section
theorem dX8_aim_8 : decode cX8_aim 8 = .ok (.iload_n 2, 1) := by decide +kernel
theorem dX8_aim_9 : decode cX8_aim 9 = .ok (.iconst 0, 1) := by decide +kernel
theorem dX8_aim_10 : decode cX8_aim 10 = .ok (.bipush 60, 2) := by decide +kernel
theorem dX8_aim_12 : decode cX8_aim 12 = .ok (.invokestatic 62, 3) := by decide +kernel
theorem dX8_aim_15 : decode cX8_aim 15 = .ok (.ifCond .eq 12, 3) := by decide +kernel
theorem dX8_aim_18 : decode cX8_aim 18 = .ok (.iload_n 3, 1) := by decide +kernel
theorem dX8_aim_19 : decode cX8_aim 19 = .ok (.iconst 0, 1) := by decide +kernel
theorem dX8_aim_20 : decode cX8_aim 20 = .ok (.iconst 1, 1) := by decide +kernel
theorem dX8_aim_21 : decode cX8_aim 21 = .ok (.invokestatic 62, 3) := by decide +kernel
theorem dX8_aim_24 : decode cX8_aim 24 = .ok (.ifCond .ne 6, 3) := by decide +kernel
theorem dX8_aim_27 : decode cX8_aim 27 = .ok (.ldc 66, 2) := by decide +kernel
theorem dX8_aim_29 : decode cX8_aim 29 = .ok (.ireturn, 1) := by decide +kernel
theorem dX8_aim_30 : decode cX8_aim 30 = .ok (.aload_n 0, 1) := by decide +kernel
theorem dX8_aim_31 : decode cX8_aim 31 = .ok (.getfield 46, 3) := by decide +kernel
theorem dX8_aim_34 : decode cX8_aim 34 = .ok (.aload_n 0, 1) := by decide +kernel
theorem dX8_aim_35 : decode cX8_aim 35 = .ok (.getfield 25, 3) := by decide +kernel
theorem dX8_aim_38 : decode cX8_aim 38 = .ok (.iload_n 2, 1) := by decide +kernel
theorem dX8_aim_39 : decode cX8_aim 39 = .ok (.iconst 1, 1) := by decide +kernel
theorem dX8_aim_40 : decode cX8_aim 40 = .ok (.iload_n 1, 1) := by decide +kernel
theorem dX8_aim_41 : decode cX8_aim 41 = .ok (.ishl, 1) := by decide +kernel
theorem dX8_aim_42 : decode cX8_aim 42 = .ok (.invokevirtual 230, 3) := by decide +kernel
theorem dX8_aim_45 : decode cX8_aim 45 = .ok (.iload_n 3, 1) := by decide +kernel
theorem dX8_aim_46 : decode cX8_aim 46 = .ok (.invokestatic 234, 3) := by decide +kernel
theorem dX8_aim_49 : decode cX8_aim 49 = .ok (.ireturn, 1) := by decide +kernel
theorem dX8_shun_0 : decode cX8_shun 0 = .ok (.aload_n 0, 1) := by decide +kernel
theorem dX8_shun_1 : decode cX8_shun 1 = .ok (.getfield 25, 3) := by decide +kernel
theorem dX8_shun_4 : decode cX8_shun 4 = .ok (.getfield 135, 3) := by decide +kernel
theorem dX8_shun_7 : decode cX8_shun 7 = .ok (.ifCond .ne 6, 3) := by decide +kernel
theorem dX8_shun_10 : decode cX8_shun 10 = .ok (.ldc 138, 2) := by decide +kernel
theorem dX8_shun_12 : decode cX8_shun 12 = .ok (.ireturn, 1) := by decide +kernel
theorem dX8_shun_13 : decode cX8_shun 13 = .ok (.iload_n 1, 1) := by decide +kernel
theorem dX8_shun_14 : decode cX8_shun 14 = .ok (.iconst 0, 1) := by decide +kernel
theorem dX8_shun_15 : decode cX8_shun 15 = .ok (.aload_n 0, 1) := by decide +kernel
theorem dX8_shun_16 : decode cX8_shun 16 = .ok (.getfield 25, 3) := by decide +kernel
theorem dX8_shun_19 : decode cX8_shun 19 = .ok (.invokevirtual 237, 3) := by decide +kernel
theorem dX8_shun_22 : decode cX8_shun 22 = .ok (.invokestatic 62, 3) := by decide +kernel
theorem dX8_shun_25 : decode cX8_shun 25 = .ok (.ifCond .eq 22, 3) := by decide +kernel
theorem dX8_shun_28 : decode cX8_shun 28 = .ok (.iload_n 2, 1) := by decide +kernel
theorem dX8_shun_29 : decode cX8_shun 29 = .ok (.iconst 0, 1) := by decide +kernel
theorem dX8_shun_30 : decode cX8_shun 30 = .ok (.bipush 60, 2) := by decide +kernel
theorem dX8_shun_32 : decode cX8_shun 32 = .ok (.invokestatic 62, 3) := by decide +kernel
theorem dX8_shun_35 : decode cX8_shun 35 = .ok (.ifCond .eq 12, 3) := by decide +kernel
theorem dX8_shun_38 : decode cX8_shun 38 = .ok (.iload_n 3, 1) := by decide +kernel
theorem dX8_shun_39 : decode cX8_shun 39 = .ok (.iconst 0, 1) := by decide +kernel
theorem dX8_shun_40 : decode cX8_shun 40 = .ok (.iconst 1, 1) := by decide +kernel
theorem dX8_shun_41 : decode cX8_shun 41 = .ok (.invokestatic 62, 3) := by decide +kernel
theorem dX8_shun_44 : decode cX8_shun 44 = .ok (.ifCond .ne 6, 3) := by decide +kernel
theorem dX8_shun_47 : decode cX8_shun 47 = .ok (.ldc 66, 2) := by decide +kernel
theorem dX8_shun_49 : decode cX8_shun 49 = .ok (.ireturn, 1) := by decide +kernel
theorem dX8_shun_50 : decode cX8_shun 50 = .ok (.aload_n 0, 1) := by decide +kernel
theorem dX8_shun_51 : decode cX8_shun 51 = .ok (.getfield 46, 3) := by decide +kernel
theorem dX8_shun_54 : decode cX8_shun 54 = .ok (.aload_n 0, 1) := by decide +kernel
theorem dX8_shun_55 : decode cX8_shun 55 = .ok (.getfield 25, 3) := by decide +kernel
theorem dX8_shun_58 : decode cX8_shun 58 = .ok (.iload_n 2, 1) := by decide +kernel
theorem dX8_shun_59 : decode cX8_shun 59 = .ok (.iload_n 1, 1) := by decide +kernel
theorem dX8_shun_60 : decode cX8_shun 60 = .ok (.iconst (-1), 1) := by decide +kernel
theorem dX8_shun_61 : decode cX8_shun 61 = .ok (.ixor, 1) := by decide +kernel
theorem dX8_shun_62 : decode cX8_shun 62 = .ok (.invokevirtual 230, 3) := by decide +kernel
theorem dX8_shun_65 : decode cX8_shun 65 = .ok (.iload_n 3, 1) := by decide +kernel
theorem dX8_shun_66 : decode cX8_shun 66 = .ok (.invokestatic 234, 3) := by decide +kernel
theorem dX8_shun_69 : decode cX8_shun 69 = .ok (.ireturn, 1) := by decide +kernel
theorem dX8_site_0 : decode cX8_site 0 = .ok (.aload_n 0, 1) := by decide +kernel
theorem dX8_site_1 : decode cX8_site 1 = .ok (.iload_n 1, 1) := by decide +kernel
theorem dX8_site_2 : decode cX8_site 2 = .ok (.invokevirtual 153, 3) := by decide +kernel
theorem dX8_site_5 : decode cX8_site 5 = .ok (.ifCond .eq 22, 3) := by decide +kernel
theorem dX8_site_8 : decode cX8_site 8 = .ok (.iload_n 2, 1) := by decide +kernel
theorem dX8_site_9 : decode cX8_site 9 = .ok (.iconst 1, 1) := by decide +kernel
theorem dX8_site_10 : decode cX8_site 10 = .ok (.bipush 20, 2) := by decide +kernel
theorem dX8_site_12 : decode cX8_site 12 = .ok (.invokestatic 62, 3) := by decide +kernel
theorem dX8_site_15 : decode cX8_site 15 = .ok (.ifCond .eq 12, 3) := by decide +kernel
theorem dX8_site_18 : decode cX8_site 18 = .ok (.iload_n 3, 1) := by decide +kernel
theorem dX8_site_19 : decode cX8_site 19 = .ok (.iconst 0, 1) := by decide +kernel
theorem dX8_site_20 : decode cX8_site 20 = .ok (.iconst 2, 1) := by decide +kernel
theorem dX8_site_21 : decode cX8_site 21 = .ok (.invokestatic 62, 3) := by decide +kernel
theorem dX8_site_24 : decode cX8_site 24 = .ok (.ifCond .ne 6, 3) := by decide +kernel
theorem dX8_site_27 : decode cX8_site 27 = .ok (.ldc 66, 2) := by decide +kernel
theorem dX8_site_29 : decode cX8_site 29 = .ok (.ireturn, 1) := by decide +kernel
theorem dX8_site_30 : decode cX8_site 30 = .ok (.aload_n 0, 1) := by decide +kernel
theorem dX8_site_31 : decode cX8_site 31 = .ok (.getfield 46, 3) := by decide +kernel
theorem dX8_site_34 : decode cX8_site 34 = .ok (.aload_n 0, 1) := by decide +kernel
theorem dX8_site_35 : decode cX8_site 35 = .ok (.getfield 25, 3) := by decide +kernel
theorem dX8_site_38 : decode cX8_site 38 = .ok (.iload_n 1, 1) := by decide +kernel
theorem dX8_site_39 : decode cX8_site 39 = .ok (.iload_n 2, 1) := by decide +kernel
theorem dX8_site_40 : decode cX8_site 40 = .ok (.invokevirtual 240, 3) := by decide +kernel
theorem dX8_site_43 : decode cX8_site 43 = .ok (.istore 4, 2) := by decide +kernel
theorem dX8_site_45 : decode cX8_site 45 = .ok (.iload_n 3, 1) := by decide +kernel
theorem dX8_site_46 : decode cX8_site 46 = .ok (.iconst 2, 1) := by decide +kernel
theorem dX8_site_47 : decode cX8_site 47 = .ok (.if_icmp .ne 11, 3) := by decide +kernel
theorem dX8_site_50 : decode cX8_site 50 = .ok (.aload_n 0, 1) := by decide +kernel
theorem dX8_site_51 : decode cX8_site 51 = .ok (.getfield 46, 3) := by decide +kernel
theorem dX8_site_54 : decode cX8_site 54 = .ok (.getfield 243, 3) := by decide +kernel
theorem dX8_site_57 : decode cX8_site 57 = .ok (.ireturn, 1) := by decide +kernel
theorem dX8_site_58 : decode cX8_site 58 = .ok (.iload_n 3, 1) := by decide +kernel
theorem dX8_site_59 : decode cX8_site 59 = .ok (.ifCond .ne 11, 3) := by decide +kernel
theorem dX8_site_62 : decode cX8_site 62 = .ok (.iload 4, 2) := by decide +kernel
theorem dX8_site_64 : decode cX8_site 64 = .ok (.bipush 10, 2) := by decide +kernel
theorem dX8_site_66 : decode cX8_site 66 = .ok (.idiv, 1) := by decide +kernel
theorem dX8_site_67 : decode cX8_site 67 = .ok (.goto 8, 3) := by decide +kernel
theorem dX8_site_70 : decode cX8_site 70 = .ok (.iload 4, 2) := by decide +kernel
theorem dX8_site_72 : decode cX8_site 72 = .ok (.bipush 10, 2) := by decide +kernel
theorem dX8_site_74 : decode cX8_site 74 = .ok (.irem, 1) := by decide +kernel
theorem dX8_site_75 : decode cX8_site 75 = .ok (.ireturn, 1) := by decide +kernel
theorem dX8_sulks_0 : decode cX8_sulks 0 = .ok (.aload_n 0, 1) := by decide +kernel
theorem dX8_sulks_1 : decode cX8_sulks 1 = .ok (.getfield 25, 3) := by decide +kernel
theorem dX8_sulks_4 : decode cX8_sulks 4 = .ok (.getfield 135, 3) := by decide +kernel
theorem dX8_sulks_7 : decode cX8_sulks 7 = .ok (.ifCond .eq 17, 3) := by decide +kernel
theorem dX8_sulks_10 : decode cX8_sulks 10 = .ok (.aload_n 0, 1) := by decide +kernel
theorem dX8_sulks_11 : decode cX8_sulks 11 = .ok (.getfield 46, 3) := by decide +kernel
theorem dX8_sulks_14 : decode cX8_sulks 14 = .ok (.aload_n 0, 1) := by decide +kernel
theorem dX8_sulks_15 : decode cX8_sulks 15 = .ok (.getfield 25, 3) := by decide +kernel
theorem dX8_sulks_18 : decode cX8_sulks 18 = .ok (.invokevirtual 246, 3) := by decide +kernel
theorem dX8_sulks_21 : decode cX8_sulks 21 = .ok (.goto 5, 3) := by decide +kernel
theorem dX8_sulks_24 : decode cX8_sulks 24 = .ok (.ldc 138, 2) := by decide +kernel
theorem dX8_sulks_26 : decode cX8_sulks 26 = .ok (.ireturn, 1) := by decide +kernel
theorem dX8_peace_0 : decode cX8_peace 0 = .ok (.aload_n 0, 1) := by decide +kernel
theorem dX8_peace_1 : decode cX8_peace 1 = .ok (.getfield 25, 3) := by decide +kernel
theorem dX8_peace_4 : decode cX8_peace 4 = .ok (.getfield 135, 3) := by decide +kernel
theorem dX8_peace_7 : decode cX8_peace 7 = .ok (.ifCond .ne 6, 3) := by decide +kernel
theorem dX8_peace_10 : decode cX8_peace 10 = .ok (.ldc 138, 2) := by decide +kernel
theorem dX8_peace_12 : decode cX8_peace 12 = .ok (.ireturn, 1) := by decide +kernel
theorem dX8_peace_13 : decode cX8_peace 13 = .ok (.iload_n 1, 1) := by decide +kernel
theorem dX8_peace_14 : decode cX8_peace 14 = .ok (.iconst 0, 1) := by decide +kernel
theorem dX8_peace_15 : decode cX8_peace 15 = .ok (.iconst 1, 1) := by decide +kernel
theorem dX8_peace_16 : decode cX8_peace 16 = .ok (.invokestatic 62, 3) := by decide +kernel
theorem dX8_peace_19 : decode cX8_peace 19 = .ok (.ifCond .ne 6, 3) := by decide +kernel
theorem dX8_peace_22 : decode cX8_peace 22 = .ok (.ldc 66, 2) := by decide +kernel
theorem dX8_peace_24 : decode cX8_peace 24 = .ok (.ireturn, 1) := by decide +kernel
theorem dX8_peace_25 : decode cX8_peace 25 = .ok (.aload_n 0, 1) := by decide +kernel
theorem dX8_peace_26 : decode cX8_peace 26 = .ok (.getfield 46, 3) := by decide +kernel
theorem dX8_peace_29 : decode cX8_peace 29 = .ok (.aload_n 0, 1) := by decide +kernel
theorem dX8_peace_30 : decode cX8_peace 30 = .ok (.getfield 25, 3) := by decide +kernel
theorem dX8_peace_33 : decode cX8_peace 33 = .ok (.invokevirtual 250, 3) := by decide +kernel
theorem dX8_peace_36 : decode cX8_peace 36 = .ok (.istore_n 2, 1) := by decide +kernel
theorem dX8_peace_37 : decode cX8_peace 37 = .ok (.iload_n 2, 1) := by decide +kernel
theorem dX8_peace_38 : decode cX8_peace 38 = .ok (.ifCond .ge 6, 3) := by decide +kernel
theorem dX8_peace_41 : decode cX8_peace 41 = .ok (.ldc 217, 2) := by decide +kernel
theorem dX8_peace_43 : decode cX8_peace 43 = .ok (.ireturn, 1) := by decide +kernel
theorem dX8_peace_44 : decode cX8_peace 44 = .ok (.iload_n 1, 1) := by decide +kernel
theorem dX8_peace_45 : decode cX8_peace 45 = .ok (.ifCond .ne 7, 3) := by decide +kernel
theorem dX8_peace_48 : decode cX8_peace 48 = .ok (.iload_n 2, 1) := by decide +kernel
theorem dX8_peace_49 : decode cX8_peace 49 = .ok (.goto 13, 3) := by decide +kernel
theorem dX8_peace_52 : decode cX8_peace 52 = .ok (.aload_n 0, 1) := by decide +kernel
theorem dX8_peace_53 : decode cX8_peace 53 = .ok (.getfield 46, 3) := by decide +kernel
theorem dX8_peace_56 : decode cX8_peace 56 = .ok (.getfield 253, 3) := by decide +kernel
theorem dX8_peace_59 : decode cX8_peace 59 = .ok (.getfield 159, 3) := by decide +kernel
theorem dX8_peace_62 : decode cX8_peace 62 = .ok (.ireturn, 1) := by decide +kernel
theorem dX8_rolls_0 : decode cX8_rolls 0 = .ok (.aload_n 0, 1) := by decide +kernel
theorem dX8_rolls_1 : decode cX8_rolls 1 = .ok (.getfield 25, 3) := by decide +kernel
theorem dX8_rolls_4 : decode cX8_rolls 4 = .ok (.getfield 135, 3) := by decide +kernel
theorem dX8_rolls_7 : decode cX8_rolls 7 = .ok (.ifCond .ne 6, 3) := by decide +kernel
theorem dX8_rolls_10 : decode cX8_rolls 10 = .ok (.ldc 138, 2) := by decide +kernel
theorem dX8_rolls_12 : decode cX8_rolls 12 = .ok (.ireturn, 1) := by decide +kernel
theorem dX8_rolls_13 : decode cX8_rolls 13 = .ok (.iload_n 1, 1) := by decide +kernel
theorem dX8_rolls_14 : decode cX8_rolls 14 = .ok (.invokestatic 58, 3) := by decide +kernel
theorem dX8_rolls_17 : decode cX8_rolls 17 = .ok (.ifCond .eq 23, 3) := by decide +kernel
theorem dX8_rolls_20 : decode cX8_rolls 20 = .ok (.iload_n 3, 1) := by decide +kernel
theorem dX8_rolls_21 : decode cX8_rolls 21 = .ok (.iconst 1, 1) := by decide +kernel
theorem dX8_rolls_22 : decode cX8_rolls 22 = .ok (.bipush 16, 2) := by decide +kernel
theorem dX8_rolls_24 : decode cX8_rolls 24 = .ok (.invokestatic 62, 3) := by decide +kernel
theorem dX8_rolls_27 : decode cX8_rolls 27 = .ok (.ifCond .eq 13, 3) := by decide +kernel
theorem dX8_rolls_30 : decode cX8_rolls 30 = .ok (.iload 4, 2) := by decide +kernel
theorem dX8_rolls_32 : decode cX8_rolls 32 = .ok (.iconst 0, 1) := by decide +kernel
theorem dX8_rolls_33 : decode cX8_rolls 33 = .ok (.iconst 3, 1) := by decide +kernel
theorem dX8_rolls_34 : decode cX8_rolls 34 = .ok (.invokestatic 62, 3) := by decide +kernel
theorem dX8_rolls_37 : decode cX8_rolls 37 = .ok (.ifCond .ne 6, 3) := by decide +kernel
theorem dX8_rolls_40 : decode cX8_rolls 40 = .ok (.ldc 66, 2) := by decide +kernel
theorem dX8_rolls_42 : decode cX8_rolls 42 = .ok (.ireturn, 1) := by decide +kernel
theorem dX8_rolls_43 : decode cX8_rolls 43 = .ok (.aload_n 0, 1) := by decide +kernel
theorem dX8_rolls_44 : decode cX8_rolls 44 = .ok (.getfield 11, 3) := by decide +kernel
theorem dX8_rolls_47 : decode cX8_rolls 47 = .ok (.iload_n 1, 1) := by decide +kernel
theorem dX8_rolls_48 : decode cX8_rolls 48 = .ok (.aaload, 1) := by decide +kernel
theorem dX8_rolls_49 : decode cX8_rolls 49 = .ok (.astore 5, 2) := by decide +kernel
theorem dX8_rolls_51 : decode cX8_rolls 51 = .ok (.aload 5, 2) := by decide +kernel
theorem dX8_rolls_53 : decode cX8_rolls 53 = .ok (.getfield 78, 3) := by decide +kernel
theorem dX8_rolls_56 : decode cX8_rolls 56 = .ok (.ifCond .eq 9, 3) := by decide +kernel
theorem dX8_rolls_59 : decode cX8_rolls 59 = .ok (.aload_n 0, 1) := by decide +kernel
theorem dX8_rolls_60 : decode cX8_rolls 60 = .ok (.iconst 1, 1) := by decide +kernel
theorem dX8_rolls_61 : decode cX8_rolls 61 = .ok (.invokevirtual 67, 3) := by decide +kernel
theorem dX8_rolls_64 : decode cX8_rolls 64 = .ok (.ireturn, 1) := by decide +kernel
theorem dX8_rolls_65 : decode cX8_rolls 65 = .ok (.aload 5, 2) := by decide +kernel
theorem dX8_rolls_67 : decode cX8_rolls 67 = .ok (.iload_n 2, 1) := by decide +kernel
theorem dX8_rolls_68 : decode cX8_rolls 68 = .ok (.iload_n 3, 1) := by decide +kernel
theorem dX8_rolls_69 : decode cX8_rolls 69 = .ok (.invokevirtual 82, 3) := by decide +kernel
theorem dX8_rolls_72 : decode cX8_rolls 72 = .ok (.ifCond .ne 9, 3) := by decide +kernel
theorem dX8_rolls_75 : decode cX8_rolls 75 = .ok (.aload_n 0, 1) := by decide +kernel
theorem dX8_rolls_76 : decode cX8_rolls 76 = .ok (.iconst 2, 1) := by decide +kernel
theorem dX8_rolls_77 : decode cX8_rolls 77 = .ok (.invokevirtual 67, 3) := by decide +kernel
theorem dX8_rolls_80 : decode cX8_rolls 80 = .ok (.ireturn, 1) := by decide +kernel
theorem dX8_rolls_81 : decode cX8_rolls 81 = .ok (.aload_n 0, 1) := by decide +kernel
theorem dX8_rolls_82 : decode cX8_rolls 82 = .ok (.aload_n 0, 1) := by decide +kernel
theorem dX8_rolls_83 : decode cX8_rolls 83 = .ok (.getfield 46, 3) := by decide +kernel
theorem dX8_rolls_86 : decode cX8_rolls 86 = .ok (.aload_n 0, 1) := by decide +kernel
theorem dX8_rolls_87 : decode cX8_rolls 87 = .ok (.getfield 25, 3) := by decide +kernel
theorem dX8_rolls_90 : decode cX8_rolls 90 = .ok (.iload 4, 2) := by decide +kernel
theorem dX8_rolls_92 : decode cX8_rolls 92 = .ok (.aload 5, 2) := by decide +kernel
theorem dX8_rolls_94 : decode cX8_rolls 94 = .ok (.iload_n 2, 1) := by decide +kernel
theorem dX8_rolls_95 : decode cX8_rolls 95 = .ok (.iload_n 3, 1) := by decide +kernel
theorem dX8_rolls_96 : decode cX8_rolls 96 = .ok (.invokevirtual 256, 3) := by decide +kernel
theorem dX8_rolls_99 : decode cX8_rolls 99 = .ok (.invokevirtual 75, 3) := by decide +kernel
theorem dX8_rolls_102 : decode cX8_rolls 102 = .ok (.ireturn, 1) := by decide +kernel
theorem dX8_sorts_0 : decode cX8_sorts 0 = .ok (.aload_n 0, 1) := by decide +kernel
theorem dX8_sorts_1 : decode cX8_sorts 1 = .ok (.iload_n 1, 1) := by decide +kernel
theorem dX8_sorts_2 : decode cX8_sorts 2 = .ok (.invokevirtual 153, 3) := by decide +kernel
theorem dX8_sorts_5 : decode cX8_sorts 5 = .ok (.ifCond .eq 21, 3) := by decide +kernel
theorem dX8_sorts_8 : decode cX8_sorts 8 = .ok (.iload_n 2, 1) := by decide +kernel
theorem dX8_sorts_9 : decode cX8_sorts 9 = .ok (.invokestatic 58, 3) := by decide +kernel
theorem dX8_sorts_12 : decode cX8_sorts 12 = .ok (.ifCond .eq 14, 3) := by decide +kernel
theorem dX8_sorts_15 : decode cX8_sorts 15 = .ok (.iload 4, 2) := by decide +kernel
theorem dX8_sorts_17 : decode cX8_sorts 17 = .ok (.iconst 1, 1) := by decide +kernel
theorem dX8_sorts_18 : decode cX8_sorts 18 = .ok (.bipush 16, 2) := by decide +kernel
theorem dX8_sorts_20 : decode cX8_sorts 20 = .ok (.invokestatic 62, 3) := by decide +kernel
theorem dX8_sorts_23 : decode cX8_sorts 23 = .ok (.ifCond .ne 6, 3) := by decide +kernel
theorem dX8_sorts_26 : decode cX8_sorts 26 = .ok (.ldc 66, 2) := by decide +kernel
theorem dX8_sorts_28 : decode cX8_sorts 28 = .ok (.ireturn, 1) := by decide +kernel
theorem dX8_sorts_29 : decode cX8_sorts 29 = .ok (.aload_n 0, 1) := by decide +kernel
theorem dX8_sorts_30 : decode cX8_sorts 30 = .ok (.getfield 11, 3) := by decide +kernel
theorem dX8_sorts_33 : decode cX8_sorts 33 = .ok (.iload_n 2, 1) := by decide +kernel
theorem dX8_sorts_34 : decode cX8_sorts 34 = .ok (.aaload, 1) := by decide +kernel
theorem dX8_sorts_35 : decode cX8_sorts 35 = .ok (.astore 5, 2) := by decide +kernel
theorem dX8_sorts_37 : decode cX8_sorts 37 = .ok (.aload 5, 2) := by decide +kernel
theorem dX8_sorts_39 : decode cX8_sorts 39 = .ok (.getfield 78, 3) := by decide +kernel
theorem dX8_sorts_42 : decode cX8_sorts 42 = .ok (.ifCond .eq 9, 3) := by decide +kernel
theorem dX8_sorts_45 : decode cX8_sorts 45 = .ok (.aload_n 0, 1) := by decide +kernel
theorem dX8_sorts_46 : decode cX8_sorts 46 = .ok (.iconst 1, 1) := by decide +kernel
theorem dX8_sorts_47 : decode cX8_sorts 47 = .ok (.invokevirtual 67, 3) := by decide +kernel
theorem dX8_sorts_50 : decode cX8_sorts 50 = .ok (.ireturn, 1) := by decide +kernel
theorem dX8_sorts_51 : decode cX8_sorts 51 = .ok (.aload 5, 2) := by decide +kernel
theorem dX8_sorts_53 : decode cX8_sorts 53 = .ok (.iload_n 3, 1) := by decide +kernel
theorem dX8_sorts_54 : decode cX8_sorts 54 = .ok (.iload 4, 2) := by decide +kernel
theorem dX8_sorts_56 : decode cX8_sorts 56 = .ok (.invokevirtual 82, 3) := by decide +kernel
theorem dX8_sorts_59 : decode cX8_sorts 59 = .ok (.ifCond .ne 9, 3) := by decide +kernel
theorem dX8_sorts_62 : decode cX8_sorts 62 = .ok (.aload_n 0, 1) := by decide +kernel
theorem dX8_sorts_63 : decode cX8_sorts 63 = .ok (.iconst 2, 1) := by decide +kernel
theorem dX8_sorts_64 : decode cX8_sorts 64 = .ok (.invokevirtual 67, 3) := by decide +kernel
theorem dX8_sorts_67 : decode cX8_sorts 67 = .ok (.ireturn, 1) := by decide +kernel
theorem dX8_sorts_68 : decode cX8_sorts 68 = .ok (.aload_n 0, 1) := by decide +kernel
theorem dX8_sorts_69 : decode cX8_sorts 69 = .ok (.aload_n 0, 1) := by decide +kernel
theorem dX8_sorts_70 : decode cX8_sorts 70 = .ok (.getfield 46, 3) := by decide +kernel
theorem dX8_sorts_73 : decode cX8_sorts 73 = .ok (.aload_n 0, 1) := by decide +kernel
theorem dX8_sorts_74 : decode cX8_sorts 74 = .ok (.getfield 25, 3) := by decide +kernel
theorem dX8_sorts_77 : decode cX8_sorts 77 = .ok (.iload_n 1, 1) := by decide +kernel
theorem dX8_sorts_78 : decode cX8_sorts 78 = .ok (.aload 5, 2) := by decide +kernel
theorem dX8_sorts_80 : decode cX8_sorts 80 = .ok (.iload_n 3, 1) := by decide +kernel
theorem dX8_sorts_81 : decode cX8_sorts 81 = .ok (.iload 4, 2) := by decide +kernel
theorem dX8_sorts_83 : decode cX8_sorts 83 = .ok (.invokevirtual 260, 3) := by decide +kernel
theorem dX8_sorts_86 : decode cX8_sorts 86 = .ok (.invokevirtual 75, 3) := by decide +kernel
theorem dX8_sorts_89 : decode cX8_sorts 89 = .ok (.ireturn, 1) := by decide +kernel
theorem dX8_play_0 : decode cX8_play 0 = .ok (.aload_n 0, 1) := by decide +kernel
theorem dX8_play_1 : decode cX8_play 1 = .ok (.iload_n 1, 1) := by decide +kernel
theorem dX8_play_2 : decode cX8_play 2 = .ok (.invokevirtual 153, 3) := by decide +kernel
theorem dX8_play_5 : decode cX8_play 5 = .ok (.ifCond .eq 22, 3) := by decide +kernel
theorem dX8_play_8 : decode cX8_play 8 = .ok (.iload_n 2, 1) := by decide +kernel
theorem dX8_play_9 : decode cX8_play 9 = .ok (.iconst 0, 1) := by decide +kernel
theorem dX8_play_10 : decode cX8_play 10 = .ok (.bipush 10, 2) := by decide +kernel
theorem dX8_play_12 : decode cX8_play 12 = .ok (.invokestatic 62, 3) := by decide +kernel
theorem dX8_play_15 : decode cX8_play 15 = .ok (.ifCond .eq 12, 3) := by decide +kernel
theorem dX8_play_18 : decode cX8_play 18 = .ok (.iload_n 3, 1) := by decide +kernel
theorem dX8_play_19 : decode cX8_play 19 = .ok (.iconst 0, 1) := by decide +kernel
theorem dX8_play_20 : decode cX8_play 20 = .ok (.iconst 1, 1) := by decide +kernel
theorem dX8_play_21 : decode cX8_play 21 = .ok (.invokestatic 62, 3) := by decide +kernel
theorem dX8_play_24 : decode cX8_play 24 = .ok (.ifCond .ne 6, 3) := by decide +kernel
theorem dX8_play_27 : decode cX8_play 27 = .ok (.ldc 66, 2) := by decide +kernel
theorem dX8_play_29 : decode cX8_play 29 = .ok (.ireturn, 1) := by decide +kernel
theorem dX8_play_30 : decode cX8_play 30 = .ok (.aload_n 0, 1) := by decide +kernel
theorem dX8_play_31 : decode cX8_play 31 = .ok (.getfield 46, 3) := by decide +kernel
theorem dX8_play_34 : decode cX8_play 34 = .ok (.aload_n 0, 1) := by decide +kernel
theorem dX8_play_35 : decode cX8_play 35 = .ok (.getfield 25, 3) := by decide +kernel
theorem dX8_play_38 : decode cX8_play 38 = .ok (.iload_n 1, 1) := by decide +kernel
theorem dX8_play_39 : decode cX8_play 39 = .ok (.iload_n 2, 1) := by decide +kernel
theorem dX8_play_40 : decode cX8_play 40 = .ok (.invokevirtual 263, 3) := by decide +kernel
theorem dX8_play_43 : decode cX8_play 43 = .ok (.istore 4, 2) := by decide +kernel
theorem dX8_play_45 : decode cX8_play 45 = .ok (.bipush 10, 2) := by decide +kernel
theorem dX8_play_47 : decode cX8_play 47 = .ok (.aload_n 0, 1) := by decide +kernel
theorem dX8_play_48 : decode cX8_play 48 = .ok (.getfield 25, 3) := by decide +kernel
theorem dX8_play_51 : decode cX8_play 51 = .ok (.getfield 132, 3) := by decide +kernel
theorem dX8_play_54 : decode cX8_play 54 = .ok (.invokestatic 266, 3) := by decide +kernel
theorem dX8_play_57 : decode cX8_play 57 = .ok (.istore 5, 2) := by decide +kernel
theorem dX8_play_59 : decode cX8_play 59 = .ok (.iconst 1, 1) := by decide +kernel
theorem dX8_play_60 : decode cX8_play 60 = .ok (.iload 4, 2) := by decide +kernel
theorem dX8_play_62 : decode cX8_play 62 = .ok (.iload 5, 2) := by decide +kernel
theorem dX8_play_64 : decode cX8_play 64 = .ok (.invokestatic 269, 3) := by decide +kernel
theorem dX8_play_67 : decode cX8_play 67 = .ok (.invokestatic 219, 3) := by decide +kernel
theorem dX8_play_70 : decode cX8_play 70 = .ok (.istore 6, 2) := by decide +kernel
theorem dX8_play_72 : decode cX8_play 72 = .ok (.iload_n 3, 1) := by decide +kernel
theorem dX8_play_73 : decode cX8_play 73 = .ok (.ifCond .ne 8, 3) := by decide +kernel
theorem dX8_play_76 : decode cX8_play 76 = .ok (.iload 4, 2) := by decide +kernel
theorem dX8_play_78 : decode cX8_play 78 = .ok (.goto 5, 3) := by decide +kernel
theorem dX8_play_81 : decode cX8_play 81 = .ok (.iload 5, 2) := by decide +kernel
theorem dX8_play_83 : decode cX8_play 83 = .ok (.iload 6, 2) := by decide +kernel
theorem dX8_play_85 : decode cX8_play 85 = .ok (.idiv, 1) := by decide +kernel
theorem dX8_play_86 : decode cX8_play 86 = .ok (.ireturn, 1) := by decide +kernel
theorem dX8_drawn_0 : decode cX8_drawn 0 = .ok (.aload_n 0, 1) := by decide +kernel
theorem dX8_drawn_1 : decode cX8_drawn 1 = .ok (.getfield 25, 3) := by decide +kernel
theorem dX8_drawn_4 : decode cX8_drawn 4 = .ok (.getfield 135, 3) := by decide +kernel
theorem dX8_drawn_7 : decode cX8_drawn 7 = .ok (.ifCond .ne 6, 3) := by decide +kernel
theorem dX8_drawn_10 : decode cX8_drawn 10 = .ok (.ldc 138, 2) := by decide +kernel
theorem dX8_drawn_12 : decode cX8_drawn 12 = .ok (.ireturn, 1) := by decide +kernel
theorem dX8_drawn_13 : decode cX8_drawn 13 = .ok (.iload_n 1, 1) := by decide +kernel
theorem dX8_drawn_14 : decode cX8_drawn 14 = .ok (.iconst 0, 1) := by decide +kernel
theorem dX8_drawn_15 : decode cX8_drawn 15 = .ok (.bipush 60, 2) := by decide +kernel
theorem dX8_drawn_17 : decode cX8_drawn 17 = .ok (.invokestatic 62, 3) := by decide +kernel
theorem dX8_drawn_20 : decode cX8_drawn 20 = .ok (.ifCond .eq 23, 3) := by decide +kernel
theorem dX8_drawn_23 : decode cX8_drawn 23 = .ok (.iload_n 2, 1) := by decide +kernel
theorem dX8_drawn_24 : decode cX8_drawn 24 = .ok (.iconst 1, 1) := by decide +kernel
theorem dX8_drawn_25 : decode cX8_drawn 25 = .ok (.ldc_w 272, 3) := by decide +kernel
theorem dX8_drawn_28 : decode cX8_drawn 28 = .ok (.invokestatic 62, 3) := by decide +kernel
theorem dX8_drawn_31 : decode cX8_drawn 31 = .ok (.ifCond .eq 12, 3) := by decide +kernel
theorem dX8_drawn_34 : decode cX8_drawn 34 = .ok (.iload_n 3, 1) := by decide +kernel
theorem dX8_drawn_35 : decode cX8_drawn 35 = .ok (.iconst 0, 1) := by decide +kernel
theorem dX8_drawn_36 : decode cX8_drawn 36 = .ok (.iconst 1, 1) := by decide +kernel
theorem dX8_drawn_37 : decode cX8_drawn 37 = .ok (.invokestatic 62, 3) := by decide +kernel
theorem dX8_drawn_40 : decode cX8_drawn 40 = .ok (.ifCond .ne 6, 3) := by decide +kernel
theorem dX8_drawn_43 : decode cX8_drawn 43 = .ok (.ldc 66, 2) := by decide +kernel
theorem dX8_drawn_45 : decode cX8_drawn 45 = .ok (.ireturn, 1) := by decide +kernel
theorem dX8_drawn_46 : decode cX8_drawn 46 = .ok (.aload_n 0, 1) := by decide +kernel
theorem dX8_drawn_47 : decode cX8_drawn 47 = .ok (.getfield 46, 3) := by decide +kernel
theorem dX8_drawn_50 : decode cX8_drawn 50 = .ok (.aload_n 0, 1) := by decide +kernel
theorem dX8_drawn_51 : decode cX8_drawn 51 = .ok (.getfield 25, 3) := by decide +kernel
theorem dX8_drawn_54 : decode cX8_drawn 54 = .ok (.iload_n 1, 1) := by decide +kernel
theorem dX8_drawn_55 : decode cX8_drawn 55 = .ok (.iload_n 2, 1) := by decide +kernel
theorem dX8_drawn_56 : decode cX8_drawn 56 = .ok (.invokevirtual 273, 3) := by decide +kernel
theorem dX8_drawn_59 : decode cX8_drawn 59 = .ok (.iload_n 3, 1) := by decide +kernel
theorem dX8_drawn_60 : decode cX8_drawn 60 = .ok (.ifCond .ne 16, 3) := by decide +kernel
theorem dX8_drawn_63 : decode cX8_drawn 63 = .ok (.aload_n 0, 1) := by decide +kernel
theorem dX8_drawn_64 : decode cX8_drawn 64 = .ok (.getfield 46, 3) := by decide +kernel
theorem dX8_drawn_67 : decode cX8_drawn 67 = .ok (.getfield 253, 3) := by decide +kernel
theorem dX8_drawn_70 : decode cX8_drawn 70 = .ok (.invokevirtual 277, 3) := by decide +kernel
theorem dX8_drawn_73 : decode cX8_drawn 73 = .ok (.goto 16, 3) := by decide +kernel
theorem dX8_drawn_76 : decode cX8_drawn 76 = .ok (.aload_n 0, 1) := by decide +kernel
theorem dX8_drawn_77 : decode cX8_drawn 77 = .ok (.getfield 46, 3) := by decide +kernel
theorem dX8_drawn_80 : decode cX8_drawn 80 = .ok (.getfield 253, 3) := by decide +kernel
theorem dX8_drawn_83 : decode cX8_drawn 83 = .ok (.invokevirtual 280, 3) := by decide +kernel
theorem dX8_drawn_86 : decode cX8_drawn 86 = .ok (.invokestatic 150, 3) := by decide +kernel
theorem dX8_drawn_89 : decode cX8_drawn 89 = .ok (.ireturn, 1) := by decide +kernel
theorem dX8_image_0 : decode cX8_image 0 = .ok (.iload_n 1, 1) := by decide +kernel
theorem dX8_image_1 : decode cX8_image 1 = .ok (.iconst 0, 1) := by decide +kernel
theorem dX8_image_2 : decode cX8_image 2 = .ok (.iconst 1, 1) := by decide +kernel
theorem dX8_image_3 : decode cX8_image 3 = .ok (.invokestatic 62, 3) := by decide +kernel
theorem dX8_image_6 : decode cX8_image 6 = .ok (.ifCond .ne 6, 3) := by decide +kernel
theorem dX8_image_9 : decode cX8_image 9 = .ok (.ldc 66, 2) := by decide +kernel
theorem dX8_image_11 : decode cX8_image 11 = .ok (.ireturn, 1) := by decide +kernel
theorem dX8_image_12 : decode cX8_image 12 = .ok (.aload_n 0, 1) := by decide +kernel
theorem dX8_image_13 : decode cX8_image 13 = .ok (.getfield 25, 3) := by decide +kernel
theorem dX8_image_16 : decode cX8_image 16 = .ok (.getfield 135, 3) := by decide +kernel
theorem dX8_image_19 : decode cX8_image 19 = .ok (.ifCond .ne 6, 3) := by decide +kernel
theorem dX8_image_22 : decode cX8_image 22 = .ok (.ldc 138, 2) := by decide +kernel
theorem dX8_image_24 : decode cX8_image 24 = .ok (.ireturn, 1) := by decide +kernel
theorem dX8_image_25 : decode cX8_image 25 = .ok (.aload_n 0, 1) := by decide +kernel
theorem dX8_image_26 : decode cX8_image 26 = .ok (.getfield 32, 3) := by decide +kernel
theorem dX8_image_29 : decode cX8_image 29 = .ok (.iload_n 1, 1) := by decide +kernel
theorem dX8_image_30 : decode cX8_image 30 = .ok (.aaload, 1) := by decide +kernel
theorem dX8_image_31 : decode cX8_image 31 = .ok (.aload_n 0, 1) := by decide +kernel
theorem dX8_image_32 : decode cX8_image 32 = .ok (.getfield 25, 3) := by decide +kernel
theorem dX8_image_35 : decode cX8_image 35 = .ok (.invokevirtual 125, 3) := by decide +kernel
theorem dX8_image_38 : decode cX8_image 38 = .ok (.iconst 1, 1) := by decide +kernel
theorem dX8_image_39 : decode cX8_image 39 = .ok (.ireturn, 1) := by decide +kernel
theorem dX8_restore_0 : decode cX8_restore 0 = .ok (.iload_n 1, 1) := by decide +kernel
theorem dX8_restore_1 : decode cX8_restore 1 = .ok (.iconst 0, 1) := by decide +kernel
theorem dX8_restore_2 : decode cX8_restore 2 = .ok (.iconst 1, 1) := by decide +kernel
theorem dX8_restore_3 : decode cX8_restore 3 = .ok (.invokestatic 62, 3) := by decide +kernel
theorem dX8_restore_6 : decode cX8_restore 6 = .ok (.ifCond .ne 6, 3) := by decide +kernel
theorem dX8_restore_9 : decode cX8_restore 9 = .ok (.ldc 66, 2) := by decide +kernel
theorem dX8_restore_11 : decode cX8_restore 11 = .ok (.ireturn, 1) := by decide +kernel
theorem dX8_restore_12 : decode cX8_restore 12 = .ok (.aload_n 0, 1) := by decide +kernel
theorem dX8_restore_13 : decode cX8_restore 13 = .ok (.getfield 32, 3) := by decide +kernel
theorem dX8_restore_16 : decode cX8_restore 16 = .ok (.iload_n 1, 1) := by decide +kernel
theorem dX8_restore_17 : decode cX8_restore 17 = .ok (.aaload, 1) := by decide +kernel
theorem dX8_restore_18 : decode cX8_restore 18 = .ok (.getfield 135, 3) := by decide +kernel
theorem dX8_restore_21 : decode cX8_restore 21 = .ok (.ifCond .ne 6, 3) := by decide +kernel
theorem dX8_restore_24 : decode cX8_restore 24 = .ok (.ldc 138, 2) := by decide +kernel
theorem dX8_restore_26 : decode cX8_restore 26 = .ok (.ireturn, 1) := by decide +kernel
theorem dX8_restore_27 : decode cX8_restore 27 = .ok (.aload_n 0, 1) := by decide +kernel
theorem dX8_restore_28 : decode cX8_restore 28 = .ok (.getfield 25, 3) := by decide +kernel
theorem dX8_restore_31 : decode cX8_restore 31 = .ok (.aload_n 0, 1) := by decide +kernel
theorem dX8_restore_32 : decode cX8_restore 32 = .ok (.getfield 32, 3) := by decide +kernel
theorem dX8_restore_35 : decode cX8_restore 35 = .ok (.iload_n 1, 1) := by decide +kernel
theorem dX8_restore_36 : decode cX8_restore 36 = .ok (.aaload, 1) := by decide +kernel
theorem dX8_restore_37 : decode cX8_restore 37 = .ok (.invokevirtual 125, 3) := by decide +kernel
theorem dX8_restore_40 : decode cX8_restore 40 = .ok (.aload_n 0, 1) := by decide +kernel
theorem dX8_restore_41 : decode cX8_restore 41 = .ok (.getfield 39, 3) := by decide +kernel
theorem dX8_restore_44 : decode cX8_restore 44 = .ok (.iconst 0, 1) := by decide +kernel
theorem dX8_restore_45 : decode cX8_restore 45 = .ok (.putfield 129, 3) := by decide +kernel
theorem dX8_restore_48 : decode cX8_restore 48 = .ok (.iconst 1, 1) := by decide +kernel
theorem dX8_restore_49 : decode cX8_restore 49 = .ok (.ireturn, 1) := by decide +kernel
theorem dX8_kind_0 : decode cX8_kind 0 = .ok (.aload_n 0, 1) := by decide +kernel
theorem dX8_kind_1 : decode cX8_kind 1 = .ok (.iload_n 1, 1) := by decide +kernel
theorem dX8_kind_2 : decode cX8_kind 2 = .ok (.invokevirtual 153, 3) := by decide +kernel
theorem dX8_kind_5 : decode cX8_kind 5 = .ok (.ifCond .eq 18, 3) := by decide +kernel
theorem dX8_kind_8 : decode cX8_kind 8 = .ok (.aload_n 0, 1) := by decide +kernel
theorem dX8_kind_9 : decode cX8_kind 9 = .ok (.getfield 25, 3) := by decide +kernel
theorem dX8_kind_12 : decode cX8_kind 12 = .ok (.getfield 169, 3) := by decide +kernel
theorem dX8_kind_15 : decode cX8_kind 15 = .ok (.iload_n 1, 1) := by decide +kernel
theorem dX8_kind_16 : decode cX8_kind 16 = .ok (.aaload, 1) := by decide +kernel
theorem dX8_kind_17 : decode cX8_kind 17 = .ok (.getfield 283, 3) := by decide +kernel
theorem dX8_kind_20 : decode cX8_kind 20 = .ok (.goto 5, 3) := by decide +kernel
theorem dX8_kind_23 : decode cX8_kind 23 = .ok (.ldc 66, 2) := by decide +kernel
theorem dX8_kind_25 : decode cX8_kind 25 = .ok (.ireturn, 1) := by decide +kernel
theorem dX8_as_0 : decode cX8_as 0 = .ok (.aload_n 0, 1) := by decide +kernel
theorem dX8_as_1 : decode cX8_as 1 = .ok (.iload_n 1, 1) := by decide +kernel
theorem dX8_as_2 : decode cX8_as 2 = .ok (.invokevirtual 153, 3) := by decide +kernel
theorem dX8_as_5 : decode cX8_as 5 = .ok (.ifCond .eq 12, 3) := by decide +kernel
theorem dX8_as_8 : decode cX8_as 8 = .ok (.iload_n 2, 1) := by decide +kernel
theorem dX8_as_9 : decode cX8_as 9 = .ok (.iconst 0, 1) := by decide +kernel
theorem dX8_as_10 : decode cX8_as 10 = .ok (.iconst 5, 1) := by decide +kernel
theorem dX8_as_11 : decode cX8_as 11 = .ok (.invokestatic 62, 3) := by decide +kernel
theorem dX8_as_14 : decode cX8_as 14 = .ok (.ifCond .ne 6, 3) := by decide +kernel
theorem dX8_as_17 : decode cX8_as 17 = .ok (.ldc 66, 2) := by decide +kernel
theorem dX8_as_19 : decode cX8_as 19 = .ok (.ireturn, 1) := by decide +kernel
theorem dX8_as_20 : decode cX8_as 20 = .ok (.aload_n 0, 1) := by decide +kernel
theorem dX8_as_21 : decode cX8_as 21 = .ok (.getfield 25, 3) := by decide +kernel
theorem dX8_as_24 : decode cX8_as 24 = .ok (.getfield 169, 3) := by decide +kernel
theorem dX8_as_27 : decode cX8_as 27 = .ok (.iload_n 1, 1) := by decide +kernel
theorem dX8_as_28 : decode cX8_as 28 = .ok (.aaload, 1) := by decide +kernel
theorem dX8_as_29 : decode cX8_as 29 = .ok (.getfield 283, 3) := by decide +kernel
theorem dX8_as_32 : decode cX8_as 32 = .ok (.iload_n 2, 1) := by decide +kernel
theorem dX8_as_33 : decode cX8_as 33 = .ok (.invokestatic 286, 3) := by decide +kernel
theorem dX8_as_36 : decode cX8_as 36 = .ok (.ifCond .eq 11, 3) := by decide +kernel
theorem dX8_as_39 : decode cX8_as 39 = .ok (.aload_n 0, 1) := by decide +kernel
theorem dX8_as_40 : decode cX8_as 40 = .ok (.iload_n 1, 1) := by decide +kernel
theorem dX8_as_41 : decode cX8_as 41 = .ok (.invokevirtual 75, 3) := by decide +kernel
theorem dX8_as_44 : decode cX8_as 44 = .ok (.goto 8, 3) := by decide +kernel
theorem dX8_as_47 : decode cX8_as 47 = .ok (.aload_n 0, 1) := by decide +kernel
theorem dX8_as_48 : decode cX8_as 48 = .ok (.iconst 3, 1) := by decide +kernel
theorem dX8_as_49 : decode cX8_as 49 = .ok (.invokevirtual 67, 3) := by decide +kernel
theorem dX8_as_52 : decode cX8_as 52 = .ok (.ireturn, 1) := by decide +kernel
theorem dX8_ask_0 : decode cX8_ask 0 = .ok (.aload_n 0, 1) := by decide +kernel
theorem dX8_ask_1 : decode cX8_ask 1 = .ok (.iload_n 1, 1) := by decide +kernel
theorem dX8_ask_2 : decode cX8_ask 2 = .ok (.invokevirtual 153, 3) := by decide +kernel
theorem dX8_ask_5 : decode cX8_ask 5 = .ok (.ifCond .eq 12, 3) := by decide +kernel
theorem dX8_ask_8 : decode cX8_ask 8 = .ok (.iload_n 2, 1) := by decide +kernel
theorem dX8_ask_9 : decode cX8_ask 9 = .ok (.iconst 0, 1) := by decide +kernel
theorem dX8_ask_10 : decode cX8_ask 10 = .ok (.iconst 1, 1) := by decide +kernel
theorem dX8_ask_11 : decode cX8_ask 11 = .ok (.invokestatic 62, 3) := by decide +kernel
theorem dX8_ask_14 : decode cX8_ask 14 = .ok (.ifCond .ne 6, 3) := by decide +kernel
theorem dX8_ask_17 : decode cX8_ask 17 = .ok (.ldc 66, 2) := by decide +kernel
theorem dX8_ask_19 : decode cX8_ask 19 = .ok (.ireturn, 1) := by decide +kernel
theorem dX8_ask_20 : decode cX8_ask 20 = .ok (.aload_n 0, 1) := by decide +kernel
theorem dX8_ask_21 : decode cX8_ask 21 = .ok (.getfield 53, 3) := by decide +kernel
theorem dX8_ask_24 : decode cX8_ask 24 = .ok (.iconst 0, 1) := by decide +kernel
theorem dX8_ask_25 : decode cX8_ask 25 = .ok (.putfield 289, 3) := by decide +kernel
theorem dX8_ask_28 : decode cX8_ask 28 = .ok (.aload_n 0, 1) := by decide +kernel
theorem dX8_ask_29 : decode cX8_ask 29 = .ok (.getfield 53, 3) := by decide +kernel
theorem dX8_ask_32 : decode cX8_ask 32 = .ok (.aload_n 0, 1) := by decide +kernel
theorem dX8_ask_33 : decode cX8_ask 33 = .ok (.getfield 25, 3) := by decide +kernel
theorem dX8_ask_36 : decode cX8_ask 36 = .ok (.getfield 169, 3) := by decide +kernel
theorem dX8_ask_39 : decode cX8_ask 39 = .ok (.iload_n 1, 1) := by decide +kernel
theorem dX8_ask_40 : decode cX8_ask 40 = .ok (.aaload, 1) := by decide +kernel
theorem dX8_ask_41 : decode cX8_ask 41 = .ok (.iload_n 1, 1) := by decide +kernel
theorem dX8_ask_42 : decode cX8_ask 42 = .ok (.iload_n 2, 1) := by decide +kernel
theorem dX8_ask_43 : decode cX8_ask 43 = .ok (.invokestatic 290, 3) := by decide +kernel
theorem dX8_ask_46 : decode cX8_ask 46 = .ok (.ireturn, 1) := by decide +kernel
theorem dX8_trace_0 : decode cX8_trace 0 = .ok (.iload_n 1, 1) := by decide +kernel
theorem dX8_trace_1 : decode cX8_trace 1 = .ok (.iconst 0, 1) := by decide +kernel
theorem dX8_trace_2 : decode cX8_trace 2 = .ok (.aload_n 0, 1) := by decide +kernel
theorem dX8_trace_3 : decode cX8_trace 3 = .ok (.getfield 53, 3) := by decide +kernel
theorem dX8_trace_6 : decode cX8_trace 6 = .ok (.getfield 289, 3) := by decide +kernel
theorem dX8_trace_9 : decode cX8_trace 9 = .ok (.iconst 1, 1) := by decide +kernel
theorem dX8_trace_10 : decode cX8_trace 10 = .ok (.isub, 1) := by decide +kernel
theorem dX8_trace_11 : decode cX8_trace 11 = .ok (.invokestatic 62, 3) := by decide +kernel
theorem dX8_trace_14 : decode cX8_trace 14 = .ok (.ifCond .eq 15, 3) := by decide +kernel
theorem dX8_trace_17 : decode cX8_trace 17 = .ok (.aload_n 0, 1) := by decide +kernel
theorem dX8_trace_18 : decode cX8_trace 18 = .ok (.getfield 53, 3) := by decide +kernel
theorem dX8_trace_21 : decode cX8_trace 21 = .ok (.getfield 294, 3) := by decide +kernel
theorem dX8_trace_24 : decode cX8_trace 24 = .ok (.iload_n 1, 1) := by decide +kernel
theorem dX8_trace_25 : decode cX8_trace 25 = .ok (.iaload, 1) := by decide +kernel
theorem dX8_trace_26 : decode cX8_trace 26 = .ok (.goto 5, 3) := by decide +kernel
theorem dX8_trace_29 : decode cX8_trace 29 = .ok (.ldc 217, 2) := by decide +kernel
theorem dX8_trace_31 : decode cX8_trace 31 = .ok (.ireturn, 1) := by decide +kernel
theorem dX8_count_0 : decode cX8_count 0 = .ok (.iload_n 1, 1) := by decide +kernel
theorem dX8_count_1 : decode cX8_count 1 = .ok (.tableswitch 133 0 9 #[55, 60, 68, 76, 84, 92, 101, 109, 117, 125], 55) := by decide +kernel
theorem dX8_count_56 : decode cX8_count 56 = .ok (.aload_n 0, 1) := by decide +kernel
theorem dX8_count_57 : decode cX8_count 57 = .ok (.invokevirtual 297, 3) := by decide +kernel
theorem dX8_count_60 : decode cX8_count 60 = .ok (.ireturn, 1) := by decide +kernel
theorem dX8_count_61 : decode cX8_count 61 = .ok (.aload_n 0, 1) := by decide +kernel
theorem dX8_count_62 : decode cX8_count 62 = .ok (.getfield 25, 3) := by decide +kernel
theorem dX8_count_65 : decode cX8_count 65 = .ok (.getfield 202, 3) := by decide +kernel
theorem dX8_count_68 : decode cX8_count 68 = .ok (.ireturn, 1) := by decide +kernel
theorem dX8_count_69 : decode cX8_count 69 = .ok (.aload_n 0, 1) := by decide +kernel
theorem dX8_count_70 : decode cX8_count 70 = .ok (.getfield 25, 3) := by decide +kernel
theorem dX8_count_73 : decode cX8_count 73 = .ok (.getfield 132, 3) := by decide +kernel
theorem dX8_count_76 : decode cX8_count 76 = .ok (.ireturn, 1) := by decide +kernel
theorem dX8_count_77 : decode cX8_count 77 = .ok (.aload_n 0, 1) := by decide +kernel
theorem dX8_count_78 : decode cX8_count 78 = .ok (.getfield 25, 3) := by decide +kernel
theorem dX8_count_81 : decode cX8_count 81 = .ok (.getfield 139, 3) := by decide +kernel
theorem dX8_count_84 : decode cX8_count 84 = .ok (.ireturn, 1) := by decide +kernel
theorem dX8_count_85 : decode cX8_count 85 = .ok (.aload_n 0, 1) := by decide +kernel
theorem dX8_count_86 : decode cX8_count 86 = .ok (.getfield 25, 3) := by decide +kernel
theorem dX8_count_89 : decode cX8_count 89 = .ok (.getfield 159, 3) := by decide +kernel
theorem dX8_count_92 : decode cX8_count 92 = .ok (.ireturn, 1) := by decide +kernel
theorem dX8_count_93 : decode cX8_count 93 = .ok (.aload_n 0, 1) := by decide +kernel
theorem dX8_count_94 : decode cX8_count 94 = .ok (.getfield 25, 3) := by decide +kernel
theorem dX8_count_97 : decode cX8_count 97 = .ok (.iconst 0, 1) := by decide +kernel
theorem dX8_count_98 : decode cX8_count 98 = .ok (.invokevirtual 300, 3) := by decide +kernel
theorem dX8_count_101 : decode cX8_count 101 = .ok (.ireturn, 1) := by decide +kernel
theorem dX8_count_102 : decode cX8_count 102 = .ok (.aload_n 0, 1) := by decide +kernel
theorem dX8_count_103 : decode cX8_count 103 = .ok (.getfield 39, 3) := by decide +kernel
theorem dX8_count_106 : decode cX8_count 106 = .ok (.getfield 129, 3) := by decide +kernel
theorem dX8_count_109 : decode cX8_count 109 = .ok (.ireturn, 1) := by decide +kernel
theorem dX8_count_110 : decode cX8_count 110 = .ok (.aload_n 0, 1) := by decide +kernel
theorem dX8_count_111 : decode cX8_count 111 = .ok (.getfield 18, 3) := by decide +kernel
theorem dX8_count_114 : decode cX8_count 114 = .ok (.getfield 109, 3) := by decide +kernel
theorem dX8_count_117 : decode cX8_count 117 = .ok (.ireturn, 1) := by decide +kernel
theorem dX8_count_118 : decode cX8_count 118 = .ok (.aload_n 0, 1) := by decide +kernel
theorem dX8_count_119 : decode cX8_count 119 = .ok (.getfield 25, 3) := by decide +kernel
theorem dX8_count_122 : decode cX8_count 122 = .ok (.getfield 181, 3) := by decide +kernel
theorem dX8_count_125 : decode cX8_count 125 = .ok (.ireturn, 1) := by decide +kernel
theorem dX8_count_126 : decode cX8_count 126 = .ok (.aload_n 0, 1) := by decide +kernel
theorem dX8_count_127 : decode cX8_count 127 = .ok (.getfield 25, 3) := by decide +kernel
theorem dX8_count_130 : decode cX8_count 130 = .ok (.invokevirtual 277, 3) := by decide +kernel
theorem dX8_count_133 : decode cX8_count 133 = .ok (.ireturn, 1) := by decide +kernel
theorem dX8_count_134 : decode cX8_count 134 = .ok (.ldc 66, 2) := by decide +kernel
theorem dX8_count_136 : decode cX8_count 136 = .ok (.ireturn, 1) := by decide +kernel
theorem dX8_status_0 : decode cX8_status 0 = .ok (.aload_n 0, 1) := by decide +kernel
theorem dX8_status_1 : decode cX8_status 1 = .ok (.getfield 303, 3) := by decide +kernel
theorem dX8_status_4 : decode cX8_status 4 = .ok (.ireturn, 1) := by decide +kernel
theorem dX8_found_0 : decode cX8_found 0 = .ok (.aload_n 0, 1) := by decide +kernel
theorem dX8_found_1 : decode cX8_found 1 = .ok (.iload_n 1, 1) := by decide +kernel
theorem dX8_found_2 : decode cX8_found 2 = .ok (.putfield 303, 3) := by decide +kernel
theorem dX8_found_5 : decode cX8_found 5 = .ok (.ldc_w 306, 3) := by decide +kernel
theorem dX8_found_8 : decode cX8_found 8 = .ok (.iload_n 1, 1) := by decide +kernel
theorem dX8_found_9 : decode cX8_found 9 = .ok (.isub, 1) := by decide +kernel
theorem dX8_found_10 : decode cX8_found 10 = .ok (.ireturn, 1) := by decide +kernel
theorem dX8_fine_0 : decode cX8_fine 0 = .ok (.aload_n 0, 1) := by decide +kernel
theorem dX8_fine_1 : decode cX8_fine 1 = .ok (.iconst 0, 1) := by decide +kernel
theorem dX8_fine_2 : decode cX8_fine 2 = .ok (.putfield 303, 3) := by decide +kernel
theorem dX8_fine_5 : decode cX8_fine 5 = .ok (.iload_n 1, 1) := by decide +kernel
theorem dX8_fine_6 : decode cX8_fine 6 = .ok (.ireturn, 1) := by decide +kernel
theorem dX8_isHouse_0 : decode cX8_isHouse 0 = .ok (.iload_n 1, 1) := by decide +kernel
theorem dX8_isHouse_1 : decode cX8_isHouse 1 = .ok (.iconst 0, 1) := by decide +kernel
theorem dX8_isHouse_2 : decode cX8_isHouse 2 = .ok (.aload_n 0, 1) := by decide +kernel
theorem dX8_isHouse_3 : decode cX8_isHouse 3 = .ok (.getfield 25, 3) := by decide +kernel
theorem dX8_isHouse_6 : decode cX8_isHouse 6 = .ok (.getfield 132, 3) := by decide +kernel
theorem dX8_isHouse_9 : decode cX8_isHouse 9 = .ok (.iconst 1, 1) := by decide +kernel
theorem dX8_isHouse_10 : decode cX8_isHouse 10 = .ok (.isub, 1) := by decide +kernel
theorem dX8_isHouse_11 : decode cX8_isHouse 11 = .ok (.invokestatic 62, 3) := by decide +kernel
theorem dX8_isHouse_14 : decode cX8_isHouse 14 = .ok (.ireturn, 1) := by decide +kernel
theorem dX8_isCell_0 : decode cX8_isCell 0 = .ok (.iload_n 1, 1) := by decide +kernel
theorem dX8_isCell_1 : decode cX8_isCell 1 = .ok (.iconst 1, 1) := by decide +kernel
theorem dX8_isCell_2 : decode cX8_isCell 2 = .ok (.aload_n 0, 1) := by decide +kernel
theorem dX8_isCell_3 : decode cX8_isCell 3 = .ok (.getfield 25, 3) := by decide +kernel
theorem dX8_isCell_6 : decode cX8_isCell 6 = .ok (.getfield 202, 3) := by decide +kernel
theorem dX8_isCell_9 : decode cX8_isCell 9 = .ok (.invokestatic 62, 3) := by decide +kernel
theorem dX8_isCell_12 : decode cX8_isCell 12 = .ok (.ifCond .eq 17, 3) := by decide +kernel
theorem dX8_isCell_15 : decode cX8_isCell 15 = .ok (.iload_n 2, 1) := by decide +kernel
theorem dX8_isCell_16 : decode cX8_isCell 16 = .ok (.iconst 0, 1) := by decide +kernel
theorem dX8_isCell_17 : decode cX8_isCell 17 = .ok (.bipush 6, 2) := by decide +kernel
theorem dX8_isCell_19 : decode cX8_isCell 19 = .ok (.invokestatic 62, 3) := by decide +kernel
theorem dX8_isCell_22 : decode cX8_isCell 22 = .ok (.ifCond .eq 7, 3) := by decide +kernel
theorem dX8_isCell_25 : decode cX8_isCell 25 = .ok (.iconst 1, 1) := by decide +kernel
theorem dX8_isCell_26 : decode cX8_isCell 26 = .ok (.goto 4, 3) := by decide +kernel
theorem dX8_isCell_29 : decode cX8_isCell 29 = .ok (.iconst 0, 1) := by decide +kernel
theorem dX8_isCell_30 : decode cX8_isCell 30 = .ok (.ireturn, 1) := by decide +kernel
theorem dX8_rowsThere_0 : decode cX8_rowsThere 0 = .ok (.iconst 0, 1) := by decide +kernel
theorem dX8_rowsThere_1 : decode cX8_rowsThere 1 = .ok (.istore_n 1, 1) := by decide +kernel
theorem dX8_rowsThere_2 : decode cX8_rowsThere 2 = .ok (.aload_n 0, 1) := by decide +kernel
theorem dX8_rowsThere_3 : decode cX8_rowsThere 3 = .ok (.getfield 11, 3) := by decide +kernel
theorem dX8_rowsThere_6 : decode cX8_rowsThere 6 = .ok (.astore_n 2, 1) := by decide +kernel
theorem dX8_rowsThere_7 : decode cX8_rowsThere 7 = .ok (.aload_n 2, 1) := by decide +kernel
theorem dX8_rowsThere_8 : decode cX8_rowsThere 8 = .ok (.arraylength, 1) := by decide +kernel
theorem dX8_rowsThere_9 : decode cX8_rowsThere 9 = .ok (.istore_n 3, 1) := by decide +kernel
theorem dX8_rowsThere_10 : decode cX8_rowsThere 10 = .ok (.iconst 0, 1) := by decide +kernel
theorem dX8_rowsThere_11 : decode cX8_rowsThere 11 = .ok (.istore 4, 2) := by decide +kernel
theorem dX8_rowsThere_13 : decode cX8_rowsThere 13 = .ok (.iload 4, 2) := by decide +kernel
theorem dX8_rowsThere_15 : decode cX8_rowsThere 15 = .ok (.iload_n 3, 1) := by decide +kernel
theorem dX8_rowsThere_16 : decode cX8_rowsThere 16 = .ok (.if_icmp .ge 26, 3) := by decide +kernel
theorem dX8_rowsThere_19 : decode cX8_rowsThere 19 = .ok (.aload_n 2, 1) := by decide +kernel
theorem dX8_rowsThere_20 : decode cX8_rowsThere 20 = .ok (.iload 4, 2) := by decide +kernel
theorem dX8_rowsThere_22 : decode cX8_rowsThere 22 = .ok (.aaload, 1) := by decide +kernel
theorem dX8_rowsThere_23 : decode cX8_rowsThere 23 = .ok (.astore 5, 2) := by decide +kernel
theorem dX8_rowsThere_25 : decode cX8_rowsThere 25 = .ok (.aload 5, 2) := by decide +kernel
theorem dX8_rowsThere_27 : decode cX8_rowsThere 27 = .ok (.getfield 78, 3) := by decide +kernel
theorem dX8_rowsThere_30 : decode cX8_rowsThere 30 = .ok (.ifCond .ne 6, 3) := by decide +kernel
theorem dX8_rowsThere_33 : decode cX8_rowsThere 33 = .ok (.iinc 1 1, 3) := by decide +kernel
theorem dX8_rowsThere_36 : decode cX8_rowsThere 36 = .ok (.iinc 4 1, 3) := by decide +kernel
theorem dX8_rowsThere_39 : decode cX8_rowsThere 39 = .ok (.goto (-26), 3) := by decide +kernel
theorem dX8_rowsThere_42 : decode cX8_rowsThere 42 = .ok (.iload_n 1, 1) := by decide +kernel
theorem dX8_rowsThere_43 : decode cX8_rowsThere 43 = .ok (.ireturn, 1) := by decide +kernel
theorem dX8_isRow_0 : decode cX8_isRow 0 = .ok (.iload_n 0, 1) := by decide +kernel
theorem dX8_isRow_1 : decode cX8_isRow 1 = .ok (.iconst 0, 1) := by decide +kernel
theorem dX8_isRow_2 : decode cX8_isRow 2 = .ok (.bipush 7, 2) := by decide +kernel
theorem dX8_isRow_4 : decode cX8_isRow 4 = .ok (.invokestatic 62, 3) := by decide +kernel
theorem dX8_isRow_7 : decode cX8_isRow 7 = .ok (.ireturn, 1) := by decide +kernel
theorem dX8_within_0 : decode cX8_within 0 = .ok (.iload_n 0, 1) := by decide +kernel
theorem dX8_within_1 : decode cX8_within 1 = .ok (.iload_n 1, 1) := by decide +kernel
theorem dX8_within_2 : decode cX8_within 2 = .ok (.if_icmp .lt 12, 3) := by decide +kernel
theorem dX8_within_5 : decode cX8_within 5 = .ok (.iload_n 0, 1) := by decide +kernel
theorem dX8_within_6 : decode cX8_within 6 = .ok (.iload_n 2, 1) := by decide +kernel
theorem dX8_within_7 : decode cX8_within 7 = .ok (.if_icmp .gt 7, 3) := by decide +kernel
theorem dX8_within_10 : decode cX8_within 10 = .ok (.iconst 1, 1) := by decide +kernel
theorem dX8_within_11 : decode cX8_within 11 = .ok (.goto 4, 3) := by decide +kernel
theorem dX8_within_14 : decode cX8_within 14 = .ok (.iconst 0, 1) := by decide +kernel
theorem dX8_within_15 : decode cX8_within 15 = .ok (.ireturn, 1) := by decide +kernel
theorem dX8_orNone_0 : decode cX8_orNone 0 = .ok (.iload_n 0, 1) := by decide +kernel
theorem dX8_orNone_1 : decode cX8_orNone 1 = .ok (.ifCond .ge 8, 3) := by decide +kernel
theorem dX8_orNone_4 : decode cX8_orNone 4 = .ok (.ldc 217, 2) := by decide +kernel
theorem dX8_orNone_6 : decode cX8_orNone 6 = .ok (.goto 4, 3) := by decide +kernel
theorem dX8_orNone_9 : decode cX8_orNone 9 = .ok (.iload_n 0, 1) := by decide +kernel
theorem dX8_orNone_10 : decode cX8_orNone 10 = .ok (.ireturn, 1) := by decide +kernel
theorem dX8_sizeOrSet_0 : decode cX8_sizeOrSet 0 = .ok (.iload_n 0, 1) := by decide +kernel
theorem dX8_sizeOrSet_1 : decode cX8_sizeOrSet 1 = .ok (.ifCond .ge 6, 3) := by decide +kernel
theorem dX8_sizeOrSet_4 : decode cX8_sizeOrSet 4 = .ok (.ldc 217, 2) := by decide +kernel
theorem dX8_sizeOrSet_6 : decode cX8_sizeOrSet 6 = .ok (.ireturn, 1) := by decide +kernel
theorem dX8_sizeOrSet_7 : decode cX8_sizeOrSet 7 = .ok (.iload_n 1, 1) := by decide +kernel
theorem dX8_sizeOrSet_8 : decode cX8_sizeOrSet 8 = .ok (.ifCond .ne 10, 3) := by decide +kernel
theorem dX8_sizeOrSet_11 : decode cX8_sizeOrSet 11 = .ok (.iload_n 0, 1) := by decide +kernel
theorem dX8_sizeOrSet_12 : decode cX8_sizeOrSet 12 = .ok (.invokestatic 307, 3) := by decide +kernel
theorem dX8_sizeOrSet_15 : decode cX8_sizeOrSet 15 = .ok (.goto 4, 3) := by decide +kernel
theorem dX8_sizeOrSet_18 : decode cX8_sizeOrSet 18 = .ok (.iload_n 0, 1) := by decide +kernel
theorem dX8_sizeOrSet_19 : decode cX8_sizeOrSet 19 = .ok (.ireturn, 1) := by decide +kernel
theorem dX8_isOfKind_0 : decode cX8_isOfKind 0 = .ok (.iload_n 0, 1) := by decide +kernel
theorem dX8_isOfKind_1 : decode cX8_isOfKind 1 = .ok (.istore_n 2, 1) := by decide +kernel
theorem dX8_isOfKind_2 : decode cX8_isOfKind 2 = .ok (.iconst 0, 1) := by decide +kernel
theorem dX8_isOfKind_3 : decode cX8_isOfKind 3 = .ok (.istore_n 3, 1) := by decide +kernel
theorem dX8_isOfKind_4 : decode cX8_isOfKind 4 = .ok (.iload_n 3, 1) := by decide +kernel
theorem dX8_isOfKind_5 : decode cX8_isOfKind 5 = .ok (.getstatic 312, 3) := by decide +kernel
theorem dX8_isOfKind_8 : decode cX8_isOfKind 8 = .ok (.arraylength, 1) := by decide +kernel
theorem dX8_isOfKind_9 : decode cX8_isOfKind 9 = .ok (.if_icmp .ge 31, 3) := by decide +kernel
theorem dX8_isOfKind_12 : decode cX8_isOfKind 12 = .ok (.iload_n 2, 1) := by decide +kernel
theorem dX8_isOfKind_13 : decode cX8_isOfKind 13 = .ok (.iconst 0, 1) := by decide +kernel
theorem dX8_isOfKind_14 : decode cX8_isOfKind 14 = .ok (.iconst 5, 1) := by decide +kernel
theorem dX8_isOfKind_15 : decode cX8_isOfKind 15 = .ok (.invokestatic 62, 3) := by decide +kernel
theorem dX8_isOfKind_18 : decode cX8_isOfKind 18 = .ok (.ifCond .eq 22, 3) := by decide +kernel
theorem dX8_isOfKind_21 : decode cX8_isOfKind 21 = .ok (.iload_n 2, 1) := by decide +kernel
theorem dX8_isOfKind_22 : decode cX8_isOfKind 22 = .ok (.iload_n 1, 1) := by decide +kernel
theorem dX8_isOfKind_23 : decode cX8_isOfKind 23 = .ok (.if_icmp .ne 5, 3) := by decide +kernel
theorem dX8_isOfKind_26 : decode cX8_isOfKind 26 = .ok (.iconst 1, 1) := by decide +kernel
theorem dX8_isOfKind_27 : decode cX8_isOfKind 27 = .ok (.ireturn, 1) := by decide +kernel
theorem dX8_isOfKind_28 : decode cX8_isOfKind 28 = .ok (.getstatic 312, 3) := by decide +kernel
theorem dX8_isOfKind_31 : decode cX8_isOfKind 31 = .ok (.iload_n 2, 1) := by decide +kernel
theorem dX8_isOfKind_32 : decode cX8_isOfKind 32 = .ok (.iaload, 1) := by decide +kernel
theorem dX8_isOfKind_33 : decode cX8_isOfKind 33 = .ok (.istore_n 2, 1) := by decide +kernel
theorem dX8_isOfKind_34 : decode cX8_isOfKind 34 = .ok (.iinc 3 1, 3) := by decide +kernel
theorem dX8_isOfKind_37 : decode cX8_isOfKind 37 = .ok (.goto (-33), 3) := by decide +kernel
theorem dX8_isOfKind_40 : decode cX8_isOfKind 40 = .ok (.iconst 0, 1) := by decide +kernel
theorem dX8_isOfKind_41 : decode cX8_isOfKind 41 = .ok (.ireturn, 1) := by decide +kernel
theorem dX8_power_0 : decode cX8_power 0 = .ok (.iconst 1, 1) := by decide +kernel
theorem dX8_power_1 : decode cX8_power 1 = .ok (.istore_n 2, 1) := by decide +kernel
theorem dX8_power_2 : decode cX8_power 2 = .ok (.iconst 0, 1) := by decide +kernel
theorem dX8_power_3 : decode cX8_power 3 = .ok (.istore_n 3, 1) := by decide +kernel
theorem dX8_power_4 : decode cX8_power 4 = .ok (.iload_n 3, 1) := by decide +kernel
theorem dX8_power_5 : decode cX8_power 5 = .ok (.iload_n 1, 1) := by decide +kernel
theorem dX8_power_6 : decode cX8_power 6 = .ok (.if_icmp .ge 13, 3) := by decide +kernel
theorem dX8_power_9 : decode cX8_power 9 = .ok (.iload_n 2, 1) := by decide +kernel
theorem dX8_power_10 : decode cX8_power 10 = .ok (.iload_n 0, 1) := by decide +kernel
theorem dX8_power_11 : decode cX8_power 11 = .ok (.imul, 1) := by decide +kernel
theorem dX8_power_12 : decode cX8_power 12 = .ok (.istore_n 2, 1) := by decide +kernel
theorem dX8_power_13 : decode cX8_power 13 = .ok (.iinc 3 1, 3) := by decide +kernel
theorem dX8_power_16 : decode cX8_power 16 = .ok (.goto (-12), 3) := by decide +kernel
theorem dX8_power_19 : decode cX8_power 19 = .ok (.iload_n 2, 1) := by decide +kernel
theorem dX8_power_20 : decode cX8_power 20 = .ok (.ireturn, 1) := by decide +kernel
theorem dX8_commonDivisor_0 : decode cX8_commonDivisor 0 = .ok (.iload_n 0, 1) := by decide +kernel
theorem dX8_commonDivisor_1 : decode cX8_commonDivisor 1 = .ok (.istore_n 2, 1) := by decide +kernel
theorem dX8_commonDivisor_2 : decode cX8_commonDivisor 2 = .ok (.iload_n 1, 1) := by decide +kernel
theorem dX8_commonDivisor_3 : decode cX8_commonDivisor 3 = .ok (.istore_n 3, 1) := by decide +kernel
theorem dX8_commonDivisor_4 : decode cX8_commonDivisor 4 = .ok (.iconst 0, 1) := by decide +kernel
theorem dX8_commonDivisor_5 : decode cX8_commonDivisor 5 = .ok (.istore 4, 2) := by decide +kernel
theorem dX8_commonDivisor_7 : decode cX8_commonDivisor 7 = .ok (.iload 4, 2) := by decide +kernel
theorem dX8_commonDivisor_9 : decode cX8_commonDivisor 9 = .ok (.bipush 64, 2) := by decide +kernel
theorem dX8_commonDivisor_11 : decode cX8_commonDivisor 11 = .ok (.if_icmp .ge 23, 3) := by decide +kernel
theorem dX8_commonDivisor_14 : decode cX8_commonDivisor 14 = .ok (.iload_n 3, 1) := by decide +kernel
theorem dX8_commonDivisor_15 : decode cX8_commonDivisor 15 = .ok (.ifCond .eq 19, 3) := by decide +kernel
theorem dX8_commonDivisor_18 : decode cX8_commonDivisor 18 = .ok (.iload_n 2, 1) := by decide +kernel
theorem dX8_commonDivisor_19 : decode cX8_commonDivisor 19 = .ok (.iload_n 3, 1) := by decide +kernel
theorem dX8_commonDivisor_20 : decode cX8_commonDivisor 20 = .ok (.irem, 1) := by decide +kernel
theorem dX8_commonDivisor_21 : decode cX8_commonDivisor 21 = .ok (.istore 5, 2) := by decide +kernel
theorem dX8_commonDivisor_23 : decode cX8_commonDivisor 23 = .ok (.iload_n 3, 1) := by decide +kernel
theorem dX8_commonDivisor_24 : decode cX8_commonDivisor 24 = .ok (.istore_n 2, 1) := by decide +kernel
theorem dX8_commonDivisor_25 : decode cX8_commonDivisor 25 = .ok (.iload 5, 2) := by decide +kernel
theorem dX8_commonDivisor_27 : decode cX8_commonDivisor 27 = .ok (.istore_n 3, 1) := by decide +kernel
theorem dX8_commonDivisor_28 : decode cX8_commonDivisor 28 = .ok (.iinc 4 1, 3) := by decide +kernel
theorem dX8_commonDivisor_31 : decode cX8_commonDivisor 31 = .ok (.goto (-24), 3) := by decide +kernel
theorem dX8_commonDivisor_34 : decode cX8_commonDivisor 34 = .ok (.iload_n 2, 1) := by decide +kernel
theorem dX8_commonDivisor_35 : decode cX8_commonDivisor 35 = .ok (.ireturn, 1) := by decide +kernel
theorem dX9_init_0 : decode cX9_init 0 = .ok (.aload_n 0, 1) := by decide +kernel
theorem dX9_init_1 : decode cX9_init 1 = .ok (.invokespecial 1, 3) := by decide +kernel
theorem dX9_init_4 : decode cX9_init 4 = .ok (.aload_n 0, 1) := by decide +kernel
theorem dX9_init_5 : decode cX9_init 5 = .ok (.sipush 1092, 3) := by decide +kernel
theorem dX9_init_8 : decode cX9_init 8 = .ok (.newarray .int, 2) := by decide +kernel
theorem dX9_init_10 : decode cX9_init 10 = .ok (.putfield 7, 3) := by decide +kernel
theorem dX9_init_13 : decode cX9_init 13 = .ok (.aload_n 0, 1) := by decide +kernel
theorem dX9_init_14 : decode cX9_init 14 = .ok (.iconst 2, 1) := by decide +kernel
theorem dX9_init_15 : decode cX9_init 15 = .ok (.newarray .boolean, 2) := by decide +kernel
theorem dX9_init_17 : decode cX9_init 17 = .ok (.putfield 13, 3) := by decide +kernel
theorem dX9_init_20 : decode cX9_init 20 = .ok (.aload_n 0, 1) := by decide +kernel
theorem dX9_init_21 : decode cX9_init 21 = .ok (.bipush 8, 2) := by decide +kernel
theorem dX9_init_23 : decode cX9_init 23 = .ok (.newarray .int, 2) := by decide +kernel
theorem dX9_init_25 : decode cX9_init 25 = .ok (.putfield 17, 3) := by decide +kernel
theorem dX9_init_28 : decode cX9_init 28 = .ok (.aload_n 0, 1) := by decide +kernel
theorem dX9_init_29 : decode cX9_init 29 = .ok (.bipush 8, 2) := by decide +kernel
theorem dX9_init_31 : decode cX9_init 31 = .ok (.newarray .int, 2) := by decide +kernel
theorem dX9_init_33 : decode cX9_init 33 = .ok (.dup, 1) := by decide +kernel
theorem dX9_init_34 : decode cX9_init 34 = .ok (.iconst 0, 1) := by decide +kernel
theorem dX9_init_35 : decode cX9_init 35 = .ok (.iconst (-1), 1) := by decide +kernel
theorem dX9_init_36 : decode cX9_init 36 = .ok (.iastore, 1) := by decide +kernel
theorem dX9_init_37 : decode cX9_init 37 = .ok (.dup, 1) := by decide +kernel
theorem dX9_init_38 : decode cX9_init 38 = .ok (.iconst 1, 1) := by decide +kernel
theorem dX9_init_39 : decode cX9_init 39 = .ok (.iconst (-1), 1) := by decide +kernel
theorem dX9_init_40 : decode cX9_init 40 = .ok (.iastore, 1) := by decide +kernel
theorem dX9_init_41 : decode cX9_init 41 = .ok (.dup, 1) := by decide +kernel
theorem dX9_init_42 : decode cX9_init 42 = .ok (.iconst 2, 1) := by decide +kernel
theorem dX9_init_43 : decode cX9_init 43 = .ok (.iconst (-1), 1) := by decide +kernel
theorem dX9_init_44 : decode cX9_init 44 = .ok (.iastore, 1) := by decide +kernel
theorem dX9_init_45 : decode cX9_init 45 = .ok (.dup, 1) := by decide +kernel
theorem dX9_init_46 : decode cX9_init 46 = .ok (.iconst 3, 1) := by decide +kernel
theorem dX9_init_47 : decode cX9_init 47 = .ok (.iconst (-1), 1) := by decide +kernel
theorem dX9_init_48 : decode cX9_init 48 = .ok (.iastore, 1) := by decide +kernel
theorem dX9_init_49 : decode cX9_init 49 = .ok (.dup, 1) := by decide +kernel
theorem dX9_init_50 : decode cX9_init 50 = .ok (.iconst 4, 1) := by decide +kernel
theorem dX9_init_51 : decode cX9_init 51 = .ok (.iconst (-1), 1) := by decide +kernel
theorem dX9_init_52 : decode cX9_init 52 = .ok (.iastore, 1) := by decide +kernel
theorem dX9_init_53 : decode cX9_init 53 = .ok (.dup, 1) := by decide +kernel
theorem dX9_init_54 : decode cX9_init 54 = .ok (.iconst 5, 1) := by decide +kernel
theorem dX9_init_55 : decode cX9_init 55 = .ok (.iconst (-1), 1) := by decide +kernel
theorem dX9_init_56 : decode cX9_init 56 = .ok (.iastore, 1) := by decide +kernel
theorem dX9_init_57 : decode cX9_init 57 = .ok (.dup, 1) := by decide +kernel
theorem dX9_init_58 : decode cX9_init 58 = .ok (.bipush 6, 2) := by decide +kernel
theorem dX9_init_60 : decode cX9_init 60 = .ok (.iconst (-1), 1) := by decide +kernel
theorem dX9_init_61 : decode cX9_init 61 = .ok (.iastore, 1) := by decide +kernel
theorem dX9_init_62 : decode cX9_init 62 = .ok (.dup, 1) := by decide +kernel
theorem dX9_init_63 : decode cX9_init 63 = .ok (.bipush 7, 2) := by decide +kernel
theorem dX9_init_65 : decode cX9_init 65 = .ok (.iconst (-1), 1) := by decide +kernel
theorem dX9_init_66 : decode cX9_init 66 = .ok (.iastore, 1) := by decide +kernel
theorem dX9_init_67 : decode cX9_init 67 = .ok (.putfield 20, 3) := by decide +kernel
theorem dX9_init_70 : decode cX9_init 70 = .ok (.aload_n 0, 1) := by decide +kernel
theorem dX9_init_71 : decode cX9_init 71 = .ok (.sipush 320, 3) := by decide +kernel
theorem dX9_init_74 : decode cX9_init 74 = .ok (.newarray .int, 2) := by decide +kernel
theorem dX9_init_76 : decode cX9_init 76 = .ok (.putfield 23, 3) := by decide +kernel
theorem dX9_init_79 : decode cX9_init 79 = .ok (.aload_n 0, 1) := by decide +kernel
theorem dX9_init_80 : decode cX9_init 80 = .ok (.bipush 100, 2) := by decide +kernel
theorem dX9_init_82 : decode cX9_init 82 = .ok (.newarray .int, 2) := by decide +kernel
theorem dX9_init_84 : decode cX9_init 84 = .ok (.putfield 26, 3) := by decide +kernel
theorem dX9_init_87 : decode cX9_init 87 = .ok (.aload_n 0, 1) := by decide +kernel
theorem dX9_init_88 : decode cX9_init 88 = .ok (.bipush 16, 2) := by decide +kernel
theorem dX9_init_90 : decode cX9_init 90 = .ok (.newarray .int, 2) := by decide +kernel
theorem dX9_init_92 : decode cX9_init 92 = .ok (.putfield 29, 3) := by decide +kernel
theorem dX9_init_95 : decode cX9_init 95 = .ok (.aload_n 0, 1) := by decide +kernel
theorem dX9_init_96 : decode cX9_init 96 = .ok (.bipush 6, 2) := by decide +kernel
theorem dX9_init_98 : decode cX9_init 98 = .ok (.newarray .int, 2) := by decide +kernel
theorem dX9_init_100 : decode cX9_init 100 = .ok (.dup, 1) := by decide +kernel
theorem dX9_init_101 : decode cX9_init 101 = .ok (.iconst 0, 1) := by decide +kernel
theorem dX9_init_102 : decode cX9_init 102 = .ok (.iconst 2, 1) := by decide +kernel
theorem dX9_init_103 : decode cX9_init 103 = .ok (.iastore, 1) := by decide +kernel
theorem dX9_init_104 : decode cX9_init 104 = .ok (.dup, 1) := by decide +kernel
theorem dX9_init_105 : decode cX9_init 105 = .ok (.iconst 1, 1) := by decide +kernel
theorem dX9_init_106 : decode cX9_init 106 = .ok (.iconst 0, 1) := by decide +kernel
theorem dX9_init_107 : decode cX9_init 107 = .ok (.iastore, 1) := by decide +kernel
theorem dX9_init_108 : decode cX9_init 108 = .ok (.dup, 1) := by decide +kernel
theorem dX9_init_109 : decode cX9_init 109 = .ok (.iconst 2, 1) := by decide +kernel
theorem dX9_init_110 : decode cX9_init 110 = .ok (.iconst 0, 1) := by decide +kernel
theorem dX9_init_111 : decode cX9_init 111 = .ok (.iastore, 1) := by decide +kernel
theorem dX9_init_112 : decode cX9_init 112 = .ok (.dup, 1) := by decide +kernel
theorem dX9_init_113 : decode cX9_init 113 = .ok (.iconst 3, 1) := by decide +kernel
theorem dX9_init_114 : decode cX9_init 114 = .ok (.iconst 1, 1) := by decide +kernel
theorem dX9_init_115 : decode cX9_init 115 = .ok (.iastore, 1) := by decide +kernel
theorem dX9_init_116 : decode cX9_init 116 = .ok (.dup, 1) := by decide +kernel
theorem dX9_init_117 : decode cX9_init 117 = .ok (.iconst 4, 1) := by decide +kernel
theorem dX9_init_118 : decode cX9_init 118 = .ok (.iconst 0, 1) := by decide +kernel
theorem dX9_init_119 : decode cX9_init 119 = .ok (.iastore, 1) := by decide +kernel
theorem dX9_init_120 : decode cX9_init 120 = .ok (.dup, 1) := by decide +kernel
theorem dX9_init_121 : decode cX9_init 121 = .ok (.iconst 5, 1) := by decide +kernel
theorem dX9_init_122 : decode cX9_init 122 = .ok (.iconst 1, 1) := by decide +kernel
theorem dX9_init_123 : decode cX9_init 123 = .ok (.iastore, 1) := by decide +kernel
theorem dX9_init_124 : decode cX9_init 124 = .ok (.putfield 32, 3) := by decide +kernel
theorem dX9_init_127 : decode cX9_init 127 = .ok (.aload_n 0, 1) := by decide +kernel
theorem dX9_init_128 : decode cX9_init 128 = .ok (.bipush 6, 2) := by decide +kernel
theorem dX9_init_130 : decode cX9_init 130 = .ok (.newarray .int, 2) := by decide +kernel
theorem dX9_init_132 : decode cX9_init 132 = .ok (.dup, 1) := by decide +kernel
theorem dX9_init_133 : decode cX9_init 133 = .ok (.iconst 0, 1) := by decide +kernel
theorem dX9_init_134 : decode cX9_init 134 = .ok (.bipush 9, 2) := by decide +kernel
theorem dX9_init_136 : decode cX9_init 136 = .ok (.iastore, 1) := by decide +kernel
theorem dX9_init_137 : decode cX9_init 137 = .ok (.dup, 1) := by decide +kernel
theorem dX9_init_138 : decode cX9_init 138 = .ok (.iconst 1, 1) := by decide +kernel
theorem dX9_init_139 : decode cX9_init 139 = .ok (.bipush 6, 2) := by decide +kernel
theorem dX9_init_141 : decode cX9_init 141 = .ok (.iastore, 1) := by decide +kernel
theorem dX9_init_142 : decode cX9_init 142 = .ok (.dup, 1) := by decide +kernel
theorem dX9_init_143 : decode cX9_init 143 = .ok (.iconst 2, 1) := by decide +kernel
theorem dX9_init_144 : decode cX9_init 144 = .ok (.bipush 6, 2) := by decide +kernel
theorem dX9_init_146 : decode cX9_init 146 = .ok (.iastore, 1) := by decide +kernel
theorem dX9_init_147 : decode cX9_init 147 = .ok (.dup, 1) := by decide +kernel
theorem dX9_init_148 : decode cX9_init 148 = .ok (.iconst 3, 1) := by decide +kernel
theorem dX9_init_149 : decode cX9_init 149 = .ok (.bipush 9, 2) := by decide +kernel
theorem dX9_init_151 : decode cX9_init 151 = .ok (.iastore, 1) := by decide +kernel
theorem dX9_init_152 : decode cX9_init 152 = .ok (.dup, 1) := by decide +kernel
theorem dX9_init_153 : decode cX9_init 153 = .ok (.iconst 4, 1) := by decide +kernel
theorem dX9_init_154 : decode cX9_init 154 = .ok (.iconst 2, 1) := by decide +kernel
theorem dX9_init_155 : decode cX9_init 155 = .ok (.iastore, 1) := by decide +kernel
theorem dX9_init_156 : decode cX9_init 156 = .ok (.dup, 1) := by decide +kernel
theorem dX9_init_157 : decode cX9_init 157 = .ok (.iconst 5, 1) := by decide +kernel
theorem dX9_init_158 : decode cX9_init 158 = .ok (.bipush 9, 2) := by decide +kernel
theorem dX9_init_160 : decode cX9_init 160 = .ok (.iastore, 1) := by decide +kernel
theorem dX9_init_161 : decode cX9_init 161 = .ok (.putfield 35, 3) := by decide +kernel
theorem dX9_init_164 : decode cX9_init 164 = .ok (.aload_n 0, 1) := by decide +kernel
theorem dX9_init_165 : decode cX9_init 165 = .ok (.bipush 6, 2) := by decide +kernel
theorem dX9_init_167 : decode cX9_init 167 = .ok (.newarray .int, 2) := by decide +kernel
theorem dX9_init_169 : decode cX9_init 169 = .ok (.dup, 1) := by decide +kernel
theorem dX9_init_170 : decode cX9_init 170 = .ok (.iconst 0, 1) := by decide +kernel
theorem dX9_init_171 : decode cX9_init 171 = .ok (.iconst 0, 1) := by decide +kernel
theorem dX9_init_172 : decode cX9_init 172 = .ok (.iastore, 1) := by decide +kernel
theorem dX9_init_173 : decode cX9_init 173 = .ok (.dup, 1) := by decide +kernel
theorem dX9_init_174 : decode cX9_init 174 = .ok (.iconst 1, 1) := by decide +kernel
theorem dX9_init_175 : decode cX9_init 175 = .ok (.iconst 2, 1) := by decide +kernel
theorem dX9_init_176 : decode cX9_init 176 = .ok (.iastore, 1) := by decide +kernel
theorem dX9_init_177 : decode cX9_init 177 = .ok (.dup, 1) := by decide +kernel
theorem dX9_init_178 : decode cX9_init 178 = .ok (.iconst 2, 1) := by decide +kernel
theorem dX9_init_179 : decode cX9_init 179 = .ok (.iconst 3, 1) := by decide +kernel
theorem dX9_init_180 : decode cX9_init 180 = .ok (.iastore, 1) := by decide +kernel
theorem dX9_init_181 : decode cX9_init 181 = .ok (.dup, 1) := by decide +kernel
theorem dX9_init_182 : decode cX9_init 182 = .ok (.iconst 3, 1) := by decide +kernel
theorem dX9_init_183 : decode cX9_init 183 = .ok (.iconst 4, 1) := by decide +kernel
theorem dX9_init_184 : decode cX9_init 184 = .ok (.iastore, 1) := by decide +kernel
theorem dX9_init_185 : decode cX9_init 185 = .ok (.dup, 1) := by decide +kernel
theorem dX9_init_186 : decode cX9_init 186 = .ok (.iconst 4, 1) := by decide +kernel
theorem dX9_init_187 : decode cX9_init 187 = .ok (.iconst 5, 1) := by decide +kernel
theorem dX9_init_188 : decode cX9_init 188 = .ok (.iastore, 1) := by decide +kernel
theorem dX9_init_189 : decode cX9_init 189 = .ok (.dup, 1) := by decide +kernel
theorem dX9_init_190 : decode cX9_init 190 = .ok (.iconst 5, 1) := by decide +kernel
theorem dX9_init_191 : decode cX9_init 191 = .ok (.bipush 6, 2) := by decide +kernel
theorem dX9_init_193 : decode cX9_init 193 = .ok (.iastore, 1) := by decide +kernel
theorem dX9_init_194 : decode cX9_init 194 = .ok (.putfield 38, 3) := by decide +kernel
theorem dX9_init_197 : decode cX9_init 197 = .ok (.aload_n 0, 1) := by decide +kernel
theorem dX9_init_198 : decode cX9_init 198 = .ok (.bipush 10, 2) := by decide +kernel
theorem dX9_init_200 : decode cX9_init 200 = .ok (.newarray .int, 2) := by decide +kernel
theorem dX9_init_202 : decode cX9_init 202 = .ok (.putfield 41, 3) := by decide +kernel
theorem dX9_init_205 : decode cX9_init 205 = .ok (.aload_n 0, 1) := by decide +kernel
theorem dX9_init_206 : decode cX9_init 206 = .ok (.iconst 4, 1) := by decide +kernel
theorem dX9_init_207 : decode cX9_init 207 = .ok (.newarray .int, 2) := by decide +kernel
theorem dX9_init_209 : decode cX9_init 209 = .ok (.dup, 1) := by decide +kernel
theorem dX9_init_210 : decode cX9_init 210 = .ok (.iconst 0, 1) := by decide +kernel
theorem dX9_init_211 : decode cX9_init 211 = .ok (.iconst 2, 1) := by decide +kernel
theorem dX9_init_212 : decode cX9_init 212 = .ok (.iastore, 1) := by decide +kernel
theorem dX9_init_213 : decode cX9_init 213 = .ok (.dup, 1) := by decide +kernel
theorem dX9_init_214 : decode cX9_init 214 = .ok (.iconst 1, 1) := by decide +kernel
theorem dX9_init_215 : decode cX9_init 215 = .ok (.iconst 3, 1) := by decide +kernel
theorem dX9_init_216 : decode cX9_init 216 = .ok (.iastore, 1) := by decide +kernel
theorem dX9_init_217 : decode cX9_init 217 = .ok (.dup, 1) := by decide +kernel
theorem dX9_init_218 : decode cX9_init 218 = .ok (.iconst 2, 1) := by decide +kernel
theorem dX9_init_219 : decode cX9_init 219 = .ok (.iconst 4, 1) := by decide +kernel
theorem dX9_init_220 : decode cX9_init 220 = .ok (.iastore, 1) := by decide +kernel
theorem dX9_init_221 : decode cX9_init 221 = .ok (.dup, 1) := by decide +kernel
theorem dX9_init_222 : decode cX9_init 222 = .ok (.iconst 3, 1) := by decide +kernel
theorem dX9_init_223 : decode cX9_init 223 = .ok (.iconst 5, 1) := by decide +kernel
theorem dX9_init_224 : decode cX9_init 224 = .ok (.iastore, 1) := by decide +kernel
theorem dX9_init_225 : decode cX9_init 225 = .ok (.putfield 44, 3) := by decide +kernel
theorem dX9_init_228 : decode cX9_init 228 = .ok (.aload_n 0, 1) := by decide +kernel
theorem dX9_init_229 : decode cX9_init 229 = .ok (.iconst 4, 1) := by decide +kernel
theorem dX9_init_230 : decode cX9_init 230 = .ok (.newarray .int, 2) := by decide +kernel
theorem dX9_init_232 : decode cX9_init 232 = .ok (.dup, 1) := by decide +kernel
theorem dX9_init_233 : decode cX9_init 233 = .ok (.iconst 0, 1) := by decide +kernel
theorem dX9_init_234 : decode cX9_init 234 = .ok (.bipush 6, 2) := by decide +kernel
theorem dX9_init_236 : decode cX9_init 236 = .ok (.iastore, 1) := by decide +kernel
theorem dX9_init_237 : decode cX9_init 237 = .ok (.dup, 1) := by decide +kernel
theorem dX9_init_238 : decode cX9_init 238 = .ok (.iconst 1, 1) := by decide +kernel
theorem dX9_init_239 : decode cX9_init 239 = .ok (.bipush 6, 2) := by decide +kernel
theorem dX9_init_241 : decode cX9_init 241 = .ok (.iastore, 1) := by decide +kernel
theorem dX9_init_242 : decode cX9_init 242 = .ok (.dup, 1) := by decide +kernel
theorem dX9_init_243 : decode cX9_init 243 = .ok (.iconst 2, 1) := by decide +kernel
theorem dX9_init_244 : decode cX9_init 244 = .ok (.bipush 9, 2) := by decide +kernel
theorem dX9_init_246 : decode cX9_init 246 = .ok (.iastore, 1) := by decide +kernel
theorem dX9_init_247 : decode cX9_init 247 = .ok (.dup, 1) := by decide +kernel
theorem dX9_init_248 : decode cX9_init 248 = .ok (.iconst 3, 1) := by decide +kernel
theorem dX9_init_249 : decode cX9_init 249 = .ok (.iconst 2, 1) := by decide +kernel
theorem dX9_init_250 : decode cX9_init 250 = .ok (.iastore, 1) := by decide +kernel
theorem dX9_init_251 : decode cX9_init 251 = .ok (.putfield 47, 3) := by decide +kernel
theorem dX9_init_254 : decode cX9_init 254 = .ok (.aload_n 0, 1) := by decide +kernel
theorem dX9_init_255 : decode cX9_init 255 = .ok (.bipush 6, 2) := by decide +kernel
theorem dX9_init_257 : decode cX9_init 257 = .ok (.newarray .int, 2) := by decide +kernel
theorem dX9_init_259 : decode cX9_init 259 = .ok (.putfield 50, 3) := by decide +kernel
theorem dX9_init_262 : decode cX9_init 262 = .ok (.return_, 1) := by decide +kernel
theorem dX9_in_0 : decode cX9_in 0 = .ok (.lload_n 0, 1) := by decide +kernel
theorem dX9_in_1 : decode cX9_in 1 = .ok (.lload_n 2, 1) := by decide +kernel
theorem dX9_in_2 : decode cX9_in 2 = .ok (.lcmp, 1) := by decide +kernel
theorem dX9_in_3 : decode cX9_in 3 = .ok (.ifCond .lt 14, 3) := by decide +kernel
theorem dX9_in_6 : decode cX9_in 6 = .ok (.lload_n 0, 1) := by decide +kernel
theorem dX9_in_7 : decode cX9_in 7 = .ok (.lload 4, 2) := by decide +kernel
theorem dX9_in_9 : decode cX9_in 9 = .ok (.lcmp, 1) := by decide +kernel
theorem dX9_in_10 : decode cX9_in 10 = .ok (.ifCond .gt 7, 3) := by decide +kernel
theorem dX9_in_13 : decode cX9_in 13 = .ok (.iconst 1, 1) := by decide +kernel
theorem dX9_in_14 : decode cX9_in 14 = .ok (.goto 4, 3) := by decide +kernel
theorem dX9_in_17 : decode cX9_in 17 = .ok (.iconst 0, 1) := by decide +kernel
theorem dX9_in_18 : decode cX9_in 18 = .ok (.ireturn, 1) := by decide +kernel
theorem dX9_has_0 : decode cX9_has 0 = .ok (.iload_n 0, 1) := by decide +kernel
theorem dX9_has_1 : decode cX9_has 1 = .ok (.iload_n 1, 1) := by decide +kernel
theorem dX9_has_2 : decode cX9_has 2 = .ok (.ishr, 1) := by decide +kernel
theorem dX9_has_3 : decode cX9_has 3 = .ok (.iconst 1, 1) := by decide +kernel
theorem dX9_has_4 : decode cX9_has 4 = .ok (.iand, 1) := by decide +kernel
theorem dX9_has_5 : decode cX9_has 5 = .ok (.iconst 1, 1) := by decide +kernel
theorem dX9_has_6 : decode cX9_has 6 = .ok (.if_icmp .ne 7, 3) := by decide +kernel
theorem dX9_has_9 : decode cX9_has 9 = .ok (.iconst 1, 1) := by decide +kernel
theorem dX9_has_10 : decode cX9_has 10 = .ok (.goto 4, 3) := by decide +kernel
theorem dX9_has_13 : decode cX9_has 13 = .ok (.iconst 0, 1) := by decide +kernel
theorem dX9_has_14 : decode cX9_has 14 = .ok (.ireturn, 1) := by decide +kernel
theorem dX9_bits_0 : decode cX9_bits 0 = .ok (.iconst 0, 1) := by decide +kernel
theorem dX9_bits_1 : decode cX9_bits 1 = .ok (.istore_n 1, 1) := by decide +kernel
theorem dX9_bits_2 : decode cX9_bits 2 = .ok (.iconst 0, 1) := by decide +kernel
theorem dX9_bits_3 : decode cX9_bits 3 = .ok (.istore_n 2, 1) := by decide +kernel
theorem dX9_bits_4 : decode cX9_bits 4 = .ok (.iload_n 2, 1) := by decide +kernel
theorem dX9_bits_5 : decode cX9_bits 5 = .ok (.bipush 6, 2) := by decide +kernel
theorem dX9_bits_7 : decode cX9_bits 7 = .ok (.if_icmp .ge 17, 3) := by decide +kernel
theorem dX9_bits_10 : decode cX9_bits 10 = .ok (.iload_n 1, 1) := by decide +kernel
theorem dX9_bits_11 : decode cX9_bits 11 = .ok (.iload_n 0, 1) := by decide +kernel
theorem dX9_bits_12 : decode cX9_bits 12 = .ok (.iload_n 2, 1) := by decide +kernel
theorem dX9_bits_13 : decode cX9_bits 13 = .ok (.ishr, 1) := by decide +kernel
theorem dX9_bits_14 : decode cX9_bits 14 = .ok (.iconst 1, 1) := by decide +kernel
theorem dX9_bits_15 : decode cX9_bits 15 = .ok (.iand, 1) := by decide +kernel
theorem dX9_bits_16 : decode cX9_bits 16 = .ok (.iadd, 1) := by decide +kernel
theorem dX9_bits_17 : decode cX9_bits 17 = .ok (.istore_n 1, 1) := by decide +kernel
theorem dX9_bits_18 : decode cX9_bits 18 = .ok (.iinc 2 1, 3) := by decide +kernel
theorem dX9_bits_21 : decode cX9_bits 21 = .ok (.goto (-17), 3) := by decide +kernel
theorem dX9_bits_24 : decode cX9_bits 24 = .ok (.iload_n 1, 1) := by decide +kernel
theorem dX9_bits_25 : decode cX9_bits 25 = .ok (.ireturn, 1) := by decide +kernel
theorem dX9_find_0 : decode cX9_find 0 = .ok (.aload_n 0, 1) := by decide +kernel
theorem dX9_find_1 : decode cX9_find 1 = .ok (.iload_n 1, 1) := by decide +kernel
theorem dX9_find_2 : decode cX9_find 2 = .ok (.putfield 53, 3) := by decide +kernel
theorem dX9_find_5 : decode cX9_find 5 = .ok (.ldc 57, 2) := by decide +kernel
theorem dX9_find_7 : decode cX9_find 7 = .ok (.iload_n 1, 1) := by decide +kernel
theorem dX9_find_8 : decode cX9_find 8 = .ok (.isub, 1) := by decide +kernel
theorem dX9_find_9 : decode cX9_find 9 = .ok (.ireturn, 1) := by decide +kernel
theorem dX9_well_0 : decode cX9_well 0 = .ok (.aload_n 0, 1) := by decide +kernel
theorem dX9_well_1 : decode cX9_well 1 = .ok (.iconst 0, 1) := by decide +kernel
theorem dX9_well_2 : decode cX9_well 2 = .ok (.putfield 53, 3) := by decide +kernel
theorem dX9_well_5 : decode cX9_well 5 = .ok (.iload_n 1, 1) := by decide +kernel
theorem dX9_well_6 : decode cX9_well 6 = .ok (.ireturn, 1) := by decide +kernel
theorem dX9_isRow_0 : decode cX9_isRow 0 = .ok (.iload_n 0, 1) := by decide +kernel
theorem dX9_isRow_1 : decode cX9_isRow 1 = .ok (.i2l, 1) := by decide +kernel
theorem dX9_isRow_2 : decode cX9_isRow 2 = .ok (.lconst 0, 1) := by decide +kernel
theorem dX9_isRow_3 : decode cX9_isRow 3 = .ok (.ldc2_w 58, 3) := by decide +kernel
theorem dX9_isRow_6 : decode cX9_isRow 6 = .ok (.invokestatic 60, 3) := by decide +kernel
theorem dX9_isRow_9 : decode cX9_isRow 9 = .ok (.ireturn, 1) := by decide +kernel
theorem dX9_row_0 : decode cX9_row 0 = .ok (.iload_n 1, 1) := by decide +kernel
theorem dX9_row_1 : decode cX9_row 1 = .ok (.invokestatic 64, 3) := by decide +kernel
theorem dX9_row_4 : decode cX9_row 4 = .ok (.ifCond .eq 21, 3) := by decide +kernel
theorem dX9_row_7 : decode cX9_row 7 = .ok (.iload_n 2, 1) := by decide +kernel
theorem dX9_row_8 : decode cX9_row 8 = .ok (.i2l, 1) := by decide +kernel
theorem dX9_row_9 : decode cX9_row 9 = .ok (.lconst 0, 1) := by decide +kernel
theorem dX9_row_10 : decode cX9_row 10 = .ok (.ldc2_w 68, 3) := by decide +kernel
theorem dX9_row_13 : decode cX9_row 13 = .ok (.invokestatic 60, 3) := by decide +kernel
theorem dX9_row_16 : decode cX9_row 16 = .ok (.ifCond .eq 9, 3) := by decide +kernel
theorem dX9_row_19 : decode cX9_row 19 = .ok (.iload_n 3, 1) := by decide +kernel
theorem dX9_row_20 : decode cX9_row 20 = .ok (.bipush 40, 2) := by decide +kernel
theorem dX9_row_22 : decode cX9_row 22 = .ok (.if_icmp .le 6, 3) := by decide +kernel
theorem dX9_row_25 : decode cX9_row 25 = .ok (.ldc 70, 2) := by decide +kernel
theorem dX9_row_27 : decode cX9_row 27 = .ok (.ireturn, 1) := by decide +kernel
theorem dX9_row_28 : decode cX9_row 28 = .ok (.iload_n 3, 1) := by decide +kernel
theorem dX9_row_29 : decode cX9_row 29 = .ok (.ifCond .ge 9, 3) := by decide +kernel
theorem dX9_row_32 : decode cX9_row 32 = .ok (.aload_n 0, 1) := by decide +kernel
theorem dX9_row_33 : decode cX9_row 33 = .ok (.iconst 4, 1) := by decide +kernel
theorem dX9_row_34 : decode cX9_row 34 = .ok (.invokevirtual 71, 3) := by decide +kernel
theorem dX9_row_37 : decode cX9_row 37 = .ok (.ireturn, 1) := by decide +kernel
theorem dX9_row_38 : decode cX9_row 38 = .ok (.aload_n 0, 1) := by decide +kernel
theorem dX9_row_39 : decode cX9_row 39 = .ok (.getfield 17, 3) := by decide +kernel
theorem dX9_row_42 : decode cX9_row 42 = .ok (.iload_n 1, 1) := by decide +kernel
theorem dX9_row_43 : decode cX9_row 43 = .ok (.iload_n 2, 1) := by decide +kernel
theorem dX9_row_44 : decode cX9_row 44 = .ok (.iastore, 1) := by decide +kernel
theorem dX9_row_45 : decode cX9_row 45 = .ok (.aload_n 0, 1) := by decide +kernel
theorem dX9_row_46 : decode cX9_row 46 = .ok (.getfield 20, 3) := by decide +kernel
theorem dX9_row_49 : decode cX9_row 49 = .ok (.iload_n 1, 1) := by decide +kernel
theorem dX9_row_50 : decode cX9_row 50 = .ok (.iload_n 3, 1) := by decide +kernel
theorem dX9_row_51 : decode cX9_row 51 = .ok (.iastore, 1) := by decide +kernel
theorem dX9_row_52 : decode cX9_row 52 = .ok (.iconst 0, 1) := by decide +kernel
theorem dX9_row_53 : decode cX9_row 53 = .ok (.istore 4, 2) := by decide +kernel
theorem dX9_row_55 : decode cX9_row 55 = .ok (.iload 4, 2) := by decide +kernel
theorem dX9_row_57 : decode cX9_row 57 = .ok (.bipush 40, 2) := by decide +kernel
theorem dX9_row_59 : decode cX9_row 59 = .ok (.if_icmp .ge 22, 3) := by decide +kernel
theorem dX9_row_62 : decode cX9_row 62 = .ok (.aload_n 0, 1) := by decide +kernel
theorem dX9_row_63 : decode cX9_row 63 = .ok (.getfield 23, 3) := by decide +kernel
theorem dX9_row_66 : decode cX9_row 66 = .ok (.bipush 40, 2) := by decide +kernel
theorem dX9_row_68 : decode cX9_row 68 = .ok (.iload_n 1, 1) := by decide +kernel
theorem dX9_row_69 : decode cX9_row 69 = .ok (.imul, 1) := by decide +kernel
theorem dX9_row_70 : decode cX9_row 70 = .ok (.iload 4, 2) := by decide +kernel
theorem dX9_row_72 : decode cX9_row 72 = .ok (.iadd, 1) := by decide +kernel
theorem dX9_row_73 : decode cX9_row 73 = .ok (.iconst 0, 1) := by decide +kernel
theorem dX9_row_74 : decode cX9_row 74 = .ok (.iastore, 1) := by decide +kernel
theorem dX9_row_75 : decode cX9_row 75 = .ok (.iinc 4 1, 3) := by decide +kernel
theorem dX9_row_78 : decode cX9_row 78 = .ok (.goto (-23), 3) := by decide +kernel
theorem dX9_row_81 : decode cX9_row 81 = .ok (.aload_n 0, 1) := by decide +kernel
theorem dX9_row_82 : decode cX9_row 82 = .ok (.iload_n 3, 1) := by decide +kernel
theorem dX9_row_83 : decode cX9_row 83 = .ok (.invokevirtual 75, 3) := by decide +kernel
theorem dX9_row_86 : decode cX9_row 86 = .ok (.ireturn, 1) := by decide +kernel
theorem dX9_narrow_0 : decode cX9_narrow 0 = .ok (.iload_n 1, 1) := by decide +kernel
theorem dX9_narrow_1 : decode cX9_narrow 1 = .ok (.ifCond .ne 8, 3) := by decide +kernel
theorem dX9_narrow_4 : decode cX9_narrow 4 = .ok (.iload_n 0, 1) := by decide +kernel
theorem dX9_narrow_5 : decode cX9_narrow 5 = .ok (.i2b, 1) := by decide +kernel
theorem dX9_narrow_6 : decode cX9_narrow 6 = .ok (.goto 14, 3) := by decide +kernel
theorem dX9_narrow_9 : decode cX9_narrow 9 = .ok (.iload_n 1, 1) := by decide +kernel
theorem dX9_narrow_10 : decode cX9_narrow 10 = .ok (.iconst 1, 1) := by decide +kernel
theorem dX9_narrow_11 : decode cX9_narrow 11 = .ok (.if_icmp .ne 8, 3) := by decide +kernel
theorem dX9_narrow_14 : decode cX9_narrow 14 = .ok (.iload_n 0, 1) := by decide +kernel
theorem dX9_narrow_15 : decode cX9_narrow 15 = .ok (.i2s, 1) := by decide +kernel
theorem dX9_narrow_16 : decode cX9_narrow 16 = .ok (.goto 4, 3) := by decide +kernel
theorem dX9_narrow_19 : decode cX9_narrow 19 = .ok (.iload_n 0, 1) := by decide +kernel
theorem dX9_narrow_20 : decode cX9_narrow 20 = .ok (.ireturn, 1) := by decide +kernel
theorem dX9_set_0 : decode cX9_set 0 = .ok (.iload_n 1, 1) := by decide +kernel
theorem dX9_set_1 : decode cX9_set 1 = .ok (.invokestatic 64, 3) := by decide +kernel
theorem dX9_set_4 : decode cX9_set 4 = .ok (.ifCond .ne 6, 3) := by decide +kernel
theorem dX9_set_7 : decode cX9_set 7 = .ok (.ldc 70, 2) := by decide +kernel
theorem dX9_set_9 : decode cX9_set 9 = .ok (.ireturn, 1) := by decide +kernel
theorem dX9_set_10 : decode cX9_set 10 = .ok (.aload_n 0, 1) := by decide +kernel
theorem dX9_set_11 : decode cX9_set 11 = .ok (.getfield 20, 3) := by decide +kernel
theorem dX9_set_14 : decode cX9_set 14 = .ok (.iload_n 1, 1) := by decide +kernel
theorem dX9_set_15 : decode cX9_set 15 = .ok (.iaload, 1) := by decide +kernel
theorem dX9_set_16 : decode cX9_set 16 = .ok (.ifCond .ge 9, 3) := by decide +kernel
theorem dX9_set_19 : decode cX9_set 19 = .ok (.aload_n 0, 1) := by decide +kernel
theorem dX9_set_20 : decode cX9_set 20 = .ok (.iconst 1, 1) := by decide +kernel
theorem dX9_set_21 : decode cX9_set 21 = .ok (.invokevirtual 71, 3) := by decide +kernel
theorem dX9_set_24 : decode cX9_set 24 = .ok (.ireturn, 1) := by decide +kernel
theorem dX9_set_25 : decode cX9_set 25 = .ok (.iload_n 2, 1) := by decide +kernel
theorem dX9_set_26 : decode cX9_set 26 = .ok (.i2l, 1) := by decide +kernel
theorem dX9_set_27 : decode cX9_set 27 = .ok (.lconst 0, 1) := by decide +kernel
theorem dX9_set_28 : decode cX9_set 28 = .ok (.aload_n 0, 1) := by decide +kernel
theorem dX9_set_29 : decode cX9_set 29 = .ok (.getfield 20, 3) := by decide +kernel
theorem dX9_set_32 : decode cX9_set 32 = .ok (.iload_n 1, 1) := by decide +kernel
theorem dX9_set_33 : decode cX9_set 33 = .ok (.iaload, 1) := by decide +kernel
theorem dX9_set_34 : decode cX9_set 34 = .ok (.iconst 1, 1) := by decide +kernel
theorem dX9_set_35 : decode cX9_set 35 = .ok (.isub, 1) := by decide +kernel
theorem dX9_set_36 : decode cX9_set 36 = .ok (.i2l, 1) := by decide +kernel
theorem dX9_set_37 : decode cX9_set 37 = .ok (.invokestatic 60, 3) := by decide +kernel
theorem dX9_set_40 : decode cX9_set 40 = .ok (.ifCond .ne 9, 3) := by decide +kernel
theorem dX9_set_43 : decode cX9_set 43 = .ok (.aload_n 0, 1) := by decide +kernel
theorem dX9_set_44 : decode cX9_set 44 = .ok (.iconst 2, 1) := by decide +kernel
theorem dX9_set_45 : decode cX9_set 45 = .ok (.invokevirtual 71, 3) := by decide +kernel
theorem dX9_set_48 : decode cX9_set 48 = .ok (.ireturn, 1) := by decide +kernel
theorem dX9_set_49 : decode cX9_set 49 = .ok (.aload_n 0, 1) := by decide +kernel
theorem dX9_set_50 : decode cX9_set 50 = .ok (.getfield 23, 3) := by decide +kernel
theorem dX9_set_53 : decode cX9_set 53 = .ok (.bipush 40, 2) := by decide +kernel
theorem dX9_set_55 : decode cX9_set 55 = .ok (.iload_n 1, 1) := by decide +kernel
theorem dX9_set_56 : decode cX9_set 56 = .ok (.imul, 1) := by decide +kernel
theorem dX9_set_57 : decode cX9_set 57 = .ok (.iload_n 2, 1) := by decide +kernel
theorem dX9_set_58 : decode cX9_set 58 = .ok (.iadd, 1) := by decide +kernel
theorem dX9_set_59 : decode cX9_set 59 = .ok (.iload_n 3, 1) := by decide +kernel
theorem dX9_set_60 : decode cX9_set 60 = .ok (.aload_n 0, 1) := by decide +kernel
theorem dX9_set_61 : decode cX9_set 61 = .ok (.getfield 17, 3) := by decide +kernel
theorem dX9_set_64 : decode cX9_set 64 = .ok (.iload_n 1, 1) := by decide +kernel
theorem dX9_set_65 : decode cX9_set 65 = .ok (.iaload, 1) := by decide +kernel
theorem dX9_set_66 : decode cX9_set 66 = .ok (.invokestatic 78, 3) := by decide +kernel
theorem dX9_set_69 : decode cX9_set 69 = .ok (.iastore, 1) := by decide +kernel
theorem dX9_set_70 : decode cX9_set 70 = .ok (.aload_n 0, 1) := by decide +kernel
theorem dX9_set_71 : decode cX9_set 71 = .ok (.aload_n 0, 1) := by decide +kernel
theorem dX9_set_72 : decode cX9_set 72 = .ok (.getfield 23, 3) := by decide +kernel
theorem dX9_set_75 : decode cX9_set 75 = .ok (.bipush 40, 2) := by decide +kernel
theorem dX9_set_77 : decode cX9_set 77 = .ok (.iload_n 1, 1) := by decide +kernel
theorem dX9_set_78 : decode cX9_set 78 = .ok (.imul, 1) := by decide +kernel
theorem dX9_set_79 : decode cX9_set 79 = .ok (.iload_n 2, 1) := by decide +kernel
theorem dX9_set_80 : decode cX9_set 80 = .ok (.iadd, 1) := by decide +kernel
theorem dX9_set_81 : decode cX9_set 81 = .ok (.iaload, 1) := by decide +kernel
theorem dX9_set_82 : decode cX9_set 82 = .ok (.invokevirtual 75, 3) := by decide +kernel
theorem dX9_set_85 : decode cX9_set 85 = .ok (.ireturn, 1) := by decide +kernel
theorem dX9_isSpan_0 : decode cX9_isSpan 0 = .ok (.iload_n 2, 1) := by decide +kernel
theorem dX9_isSpan_1 : decode cX9_isSpan 1 = .ok (.ifCond .lt 27, 3) := by decide +kernel
theorem dX9_isSpan_4 : decode cX9_isSpan 4 = .ok (.iload_n 3, 1) := by decide +kernel
theorem dX9_isSpan_5 : decode cX9_isSpan 5 = .ok (.ifCond .lt 23, 3) := by decide +kernel
theorem dX9_isSpan_8 : decode cX9_isSpan 8 = .ok (.iload_n 2, 1) := by decide +kernel
theorem dX9_isSpan_9 : decode cX9_isSpan 9 = .ok (.i2l, 1) := by decide +kernel
theorem dX9_isSpan_10 : decode cX9_isSpan 10 = .ok (.iload_n 3, 1) := by decide +kernel
theorem dX9_isSpan_11 : decode cX9_isSpan 11 = .ok (.i2l, 1) := by decide +kernel
theorem dX9_isSpan_12 : decode cX9_isSpan 12 = .ok (.ladd, 1) := by decide +kernel
theorem dX9_isSpan_13 : decode cX9_isSpan 13 = .ok (.aload_n 0, 1) := by decide +kernel
theorem dX9_isSpan_14 : decode cX9_isSpan 14 = .ok (.getfield 20, 3) := by decide +kernel
theorem dX9_isSpan_17 : decode cX9_isSpan 17 = .ok (.iload_n 1, 1) := by decide +kernel
theorem dX9_isSpan_18 : decode cX9_isSpan 18 = .ok (.iaload, 1) := by decide +kernel
theorem dX9_isSpan_19 : decode cX9_isSpan 19 = .ok (.i2l, 1) := by decide +kernel
theorem dX9_isSpan_20 : decode cX9_isSpan 20 = .ok (.lcmp, 1) := by decide +kernel
theorem dX9_isSpan_21 : decode cX9_isSpan 21 = .ok (.ifCond .gt 7, 3) := by decide +kernel
theorem dX9_isSpan_24 : decode cX9_isSpan 24 = .ok (.iconst 1, 1) := by decide +kernel
theorem dX9_isSpan_25 : decode cX9_isSpan 25 = .ok (.goto 4, 3) := by decide +kernel
theorem dX9_isSpan_28 : decode cX9_isSpan 28 = .ok (.iconst 0, 1) := by decide +kernel
theorem dX9_isSpan_29 : decode cX9_isSpan 29 = .ok (.ireturn, 1) := by decide +kernel
theorem dX9_copy_0 : decode cX9_copy 0 = .ok (.iload_n 1, 1) := by decide +kernel
theorem dX9_copy_1 : decode cX9_copy 1 = .ok (.invokestatic 64, 3) := by decide +kernel
theorem dX9_copy_4 : decode cX9_copy 4 = .ok (.ifCond .eq 10, 3) := by decide +kernel
theorem dX9_copy_7 : decode cX9_copy 7 = .ok (.iload_n 3, 1) := by decide +kernel
theorem dX9_copy_8 : decode cX9_copy 8 = .ok (.invokestatic 64, 3) := by decide +kernel
theorem dX9_copy_11 : decode cX9_copy 11 = .ok (.ifCond .ne 6, 3) := by decide +kernel
theorem dX9_copy_14 : decode cX9_copy 14 = .ok (.ldc 70, 2) := by decide +kernel
theorem dX9_copy_16 : decode cX9_copy 16 = .ok (.ireturn, 1) := by decide +kernel
theorem dX9_copy_17 : decode cX9_copy 17 = .ok (.aload_n 0, 1) := by decide +kernel
theorem dX9_copy_18 : decode cX9_copy 18 = .ok (.getfield 20, 3) := by decide +kernel
theorem dX9_copy_21 : decode cX9_copy 21 = .ok (.iload_n 1, 1) := by decide +kernel
theorem dX9_copy_22 : decode cX9_copy 22 = .ok (.iaload, 1) := by decide +kernel
theorem dX9_copy_23 : decode cX9_copy 23 = .ok (.ifCond .lt 12, 3) := by decide +kernel
theorem dX9_copy_26 : decode cX9_copy 26 = .ok (.aload_n 0, 1) := by decide +kernel
theorem dX9_copy_27 : decode cX9_copy 27 = .ok (.getfield 20, 3) := by decide +kernel
theorem dX9_copy_30 : decode cX9_copy 30 = .ok (.iload_n 3, 1) := by decide +kernel
theorem dX9_copy_31 : decode cX9_copy 31 = .ok (.iaload, 1) := by decide +kernel
theorem dX9_copy_32 : decode cX9_copy 32 = .ok (.ifCond .ge 9, 3) := by decide +kernel
theorem dX9_copy_35 : decode cX9_copy 35 = .ok (.aload_n 0, 1) := by decide +kernel
theorem dX9_copy_36 : decode cX9_copy 36 = .ok (.iconst 1, 1) := by decide +kernel
theorem dX9_copy_37 : decode cX9_copy 37 = .ok (.invokevirtual 71, 3) := by decide +kernel
theorem dX9_copy_40 : decode cX9_copy 40 = .ok (.ireturn, 1) := by decide +kernel
theorem dX9_copy_41 : decode cX9_copy 41 = .ok (.aload_n 0, 1) := by decide +kernel
theorem dX9_copy_42 : decode cX9_copy 42 = .ok (.getfield 17, 3) := by decide +kernel
theorem dX9_copy_45 : decode cX9_copy 45 = .ok (.iload_n 1, 1) := by decide +kernel
theorem dX9_copy_46 : decode cX9_copy 46 = .ok (.iaload, 1) := by decide +kernel
theorem dX9_copy_47 : decode cX9_copy 47 = .ok (.aload_n 0, 1) := by decide +kernel
theorem dX9_copy_48 : decode cX9_copy 48 = .ok (.getfield 17, 3) := by decide +kernel
theorem dX9_copy_51 : decode cX9_copy 51 = .ok (.iload_n 3, 1) := by decide +kernel
theorem dX9_copy_52 : decode cX9_copy 52 = .ok (.iaload, 1) := by decide +kernel
theorem dX9_copy_53 : decode cX9_copy 53 = .ok (.if_icmp .eq 9, 3) := by decide +kernel
theorem dX9_copy_56 : decode cX9_copy 56 = .ok (.aload_n 0, 1) := by decide +kernel
theorem dX9_copy_57 : decode cX9_copy 57 = .ok (.iconst 5, 1) := by decide +kernel
theorem dX9_copy_58 : decode cX9_copy 58 = .ok (.invokevirtual 71, 3) := by decide +kernel
theorem dX9_copy_61 : decode cX9_copy 61 = .ok (.ireturn, 1) := by decide +kernel
theorem dX9_copy_62 : decode cX9_copy 62 = .ok (.aload_n 0, 1) := by decide +kernel
theorem dX9_copy_63 : decode cX9_copy 63 = .ok (.iload_n 1, 1) := by decide +kernel
theorem dX9_copy_64 : decode cX9_copy 64 = .ok (.iload_n 2, 1) := by decide +kernel
theorem dX9_copy_65 : decode cX9_copy 65 = .ok (.iload 5, 2) := by decide +kernel
theorem dX9_copy_67 : decode cX9_copy 67 = .ok (.invokevirtual 82, 3) := by decide +kernel
theorem dX9_copy_70 : decode cX9_copy 70 = .ok (.ifCond .eq 15, 3) := by decide +kernel
theorem dX9_copy_73 : decode cX9_copy 73 = .ok (.aload_n 0, 1) := by decide +kernel
theorem dX9_copy_74 : decode cX9_copy 74 = .ok (.iload_n 3, 1) := by decide +kernel
theorem dX9_copy_75 : decode cX9_copy 75 = .ok (.iload 4, 2) := by decide +kernel
theorem dX9_copy_77 : decode cX9_copy 77 = .ok (.iload 5, 2) := by decide +kernel
theorem dX9_copy_79 : decode cX9_copy 79 = .ok (.invokevirtual 82, 3) := by decide +kernel
theorem dX9_copy_82 : decode cX9_copy 82 = .ok (.ifCond .ne 9, 3) := by decide +kernel
theorem dX9_copy_85 : decode cX9_copy 85 = .ok (.aload_n 0, 1) := by decide +kernel
theorem dX9_copy_86 : decode cX9_copy 86 = .ok (.iconst 2, 1) := by decide +kernel
theorem dX9_copy_87 : decode cX9_copy 87 = .ok (.invokevirtual 71, 3) := by decide +kernel
theorem dX9_copy_90 : decode cX9_copy 90 = .ok (.ireturn, 1) := by decide +kernel
theorem dX9_copy_91 : decode cX9_copy 91 = .ok (.iload_n 2, 1) := by decide +kernel
theorem dX9_copy_92 : decode cX9_copy 92 = .ok (.iload 4, 2) := by decide +kernel
theorem dX9_copy_94 : decode cX9_copy 94 = .ok (.if_icmp .ge 7, 3) := by decide +kernel
theorem dX9_copy_97 : decode cX9_copy 97 = .ok (.iconst 1, 1) := by decide +kernel
theorem dX9_copy_98 : decode cX9_copy 98 = .ok (.goto 4, 3) := by decide +kernel
theorem dX9_copy_101 : decode cX9_copy 101 = .ok (.iconst 0, 1) := by decide +kernel
theorem dX9_copy_102 : decode cX9_copy 102 = .ok (.istore 6, 2) := by decide +kernel
theorem dX9_copy_104 : decode cX9_copy 104 = .ok (.iconst 0, 1) := by decide +kernel
theorem dX9_copy_105 : decode cX9_copy 105 = .ok (.istore 7, 2) := by decide +kernel
theorem dX9_copy_107 : decode cX9_copy 107 = .ok (.iload 7, 2) := by decide +kernel
theorem dX9_copy_109 : decode cX9_copy 109 = .ok (.iload 5, 2) := by decide +kernel
theorem dX9_copy_111 : decode cX9_copy 111 = .ok (.if_icmp .ge 57, 3) := by decide +kernel
theorem dX9_copy_114 : decode cX9_copy 114 = .ok (.iload 6, 2) := by decide +kernel
theorem dX9_copy_116 : decode cX9_copy 116 = .ok (.ifCond .eq 13, 3) := by decide +kernel
theorem dX9_copy_119 : decode cX9_copy 119 = .ok (.iload 5, 2) := by decide +kernel
theorem dX9_copy_121 : decode cX9_copy 121 = .ok (.iconst 1, 1) := by decide +kernel
theorem dX9_copy_122 : decode cX9_copy 122 = .ok (.isub, 1) := by decide +kernel
theorem dX9_copy_123 : decode cX9_copy 123 = .ok (.iload 7, 2) := by decide +kernel
theorem dX9_copy_125 : decode cX9_copy 125 = .ok (.isub, 1) := by decide +kernel
theorem dX9_copy_126 : decode cX9_copy 126 = .ok (.goto 5, 3) := by decide +kernel
theorem dX9_copy_129 : decode cX9_copy 129 = .ok (.iload 7, 2) := by decide +kernel
theorem dX9_copy_131 : decode cX9_copy 131 = .ok (.istore 8, 2) := by decide +kernel
theorem dX9_copy_133 : decode cX9_copy 133 = .ok (.aload_n 0, 1) := by decide +kernel
theorem dX9_copy_134 : decode cX9_copy 134 = .ok (.getfield 23, 3) := by decide +kernel
theorem dX9_copy_137 : decode cX9_copy 137 = .ok (.bipush 40, 2) := by decide +kernel
theorem dX9_copy_139 : decode cX9_copy 139 = .ok (.iload_n 3, 1) := by decide +kernel
theorem dX9_copy_140 : decode cX9_copy 140 = .ok (.imul, 1) := by decide +kernel
theorem dX9_copy_141 : decode cX9_copy 141 = .ok (.iload 4, 2) := by decide +kernel
theorem dX9_copy_143 : decode cX9_copy 143 = .ok (.iadd, 1) := by decide +kernel
theorem dX9_copy_144 : decode cX9_copy 144 = .ok (.iload 8, 2) := by decide +kernel
theorem dX9_copy_146 : decode cX9_copy 146 = .ok (.iadd, 1) := by decide +kernel
theorem dX9_copy_147 : decode cX9_copy 147 = .ok (.aload_n 0, 1) := by decide +kernel
theorem dX9_copy_148 : decode cX9_copy 148 = .ok (.getfield 23, 3) := by decide +kernel
theorem dX9_copy_151 : decode cX9_copy 151 = .ok (.bipush 40, 2) := by decide +kernel
theorem dX9_copy_153 : decode cX9_copy 153 = .ok (.iload_n 1, 1) := by decide +kernel
theorem dX9_copy_154 : decode cX9_copy 154 = .ok (.imul, 1) := by decide +kernel
theorem dX9_copy_155 : decode cX9_copy 155 = .ok (.iload_n 2, 1) := by decide +kernel
theorem dX9_copy_156 : decode cX9_copy 156 = .ok (.iadd, 1) := by decide +kernel
theorem dX9_copy_157 : decode cX9_copy 157 = .ok (.iload 8, 2) := by decide +kernel
theorem dX9_copy_159 : decode cX9_copy 159 = .ok (.iadd, 1) := by decide +kernel
theorem dX9_copy_160 : decode cX9_copy 160 = .ok (.iaload, 1) := by decide +kernel
theorem dX9_copy_161 : decode cX9_copy 161 = .ok (.iastore, 1) := by decide +kernel
theorem dX9_copy_162 : decode cX9_copy 162 = .ok (.iinc 7 1, 3) := by decide +kernel
theorem dX9_copy_165 : decode cX9_copy 165 = .ok (.goto (-58), 3) := by decide +kernel
theorem dX9_copy_168 : decode cX9_copy 168 = .ok (.aload_n 0, 1) := by decide +kernel
theorem dX9_copy_169 : decode cX9_copy 169 = .ok (.iload 5, 2) := by decide +kernel
theorem dX9_copy_171 : decode cX9_copy 171 = .ok (.invokevirtual 75, 3) := by decide +kernel
theorem dX9_copy_174 : decode cX9_copy 174 = .ok (.ireturn, 1) := by decide +kernel
theorem dX9_drop_0 : decode cX9_drop 0 = .ok (.iload_n 1, 1) := by decide +kernel
theorem dX9_drop_1 : decode cX9_drop 1 = .ok (.invokestatic 64, 3) := by decide +kernel
theorem dX9_drop_4 : decode cX9_drop 4 = .ok (.ifCond .ne 6, 3) := by decide +kernel
theorem dX9_drop_7 : decode cX9_drop 7 = .ok (.ldc 70, 2) := by decide +kernel
theorem dX9_drop_9 : decode cX9_drop 9 = .ok (.ireturn, 1) := by decide +kernel
theorem dX9_drop_10 : decode cX9_drop 10 = .ok (.aload_n 0, 1) := by decide +kernel
theorem dX9_drop_11 : decode cX9_drop 11 = .ok (.getfield 20, 3) := by decide +kernel
theorem dX9_drop_14 : decode cX9_drop 14 = .ok (.iload_n 1, 1) := by decide +kernel
theorem dX9_drop_15 : decode cX9_drop 15 = .ok (.iaload, 1) := by decide +kernel
theorem dX9_drop_16 : decode cX9_drop 16 = .ok (.ifCond .ge 9, 3) := by decide +kernel
theorem dX9_drop_19 : decode cX9_drop 19 = .ok (.aload_n 0, 1) := by decide +kernel
theorem dX9_drop_20 : decode cX9_drop 20 = .ok (.iconst 1, 1) := by decide +kernel
theorem dX9_drop_21 : decode cX9_drop 21 = .ok (.invokevirtual 71, 3) := by decide +kernel
theorem dX9_drop_24 : decode cX9_drop 24 = .ok (.ireturn, 1) := by decide +kernel
theorem dX9_drop_25 : decode cX9_drop 25 = .ok (.aload_n 0, 1) := by decide +kernel
theorem dX9_drop_26 : decode cX9_drop 26 = .ok (.getfield 20, 3) := by decide +kernel
theorem dX9_drop_29 : decode cX9_drop 29 = .ok (.iload_n 1, 1) := by decide +kernel
theorem dX9_drop_30 : decode cX9_drop 30 = .ok (.iaload, 1) := by decide +kernel
theorem dX9_drop_31 : decode cX9_drop 31 = .ok (.istore_n 2, 1) := by decide +kernel
theorem dX9_drop_32 : decode cX9_drop 32 = .ok (.aload_n 0, 1) := by decide +kernel
theorem dX9_drop_33 : decode cX9_drop 33 = .ok (.getfield 20, 3) := by decide +kernel
theorem dX9_drop_36 : decode cX9_drop 36 = .ok (.iload_n 1, 1) := by decide +kernel
theorem dX9_drop_37 : decode cX9_drop 37 = .ok (.iconst (-1), 1) := by decide +kernel
theorem dX9_drop_38 : decode cX9_drop 38 = .ok (.iastore, 1) := by decide +kernel
theorem dX9_drop_39 : decode cX9_drop 39 = .ok (.aload_n 0, 1) := by decide +kernel
theorem dX9_drop_40 : decode cX9_drop 40 = .ok (.iload_n 2, 1) := by decide +kernel
theorem dX9_drop_41 : decode cX9_drop 41 = .ok (.invokevirtual 75, 3) := by decide +kernel
theorem dX9_drop_44 : decode cX9_drop 44 = .ok (.ireturn, 1) := by decide +kernel
theorem dX9_feed_0 : decode cX9_feed 0 = .ok (.iload_n 1, 1) := by decide +kernel
theorem dX9_feed_1 : decode cX9_feed 1 = .ok (.i2l, 1) := by decide +kernel
theorem dX9_feed_2 : decode cX9_feed 2 = .ok (.lconst 0, 1) := by decide +kernel
theorem dX9_feed_3 : decode cX9_feed 3 = .ok (.ldc2_w 86, 3) := by decide +kernel
theorem dX9_feed_6 : decode cX9_feed 6 = .ok (.invokestatic 60, 3) := by decide +kernel
theorem dX9_feed_9 : decode cX9_feed 9 = .ok (.ifCond .ne 6, 3) := by decide +kernel
theorem dX9_feed_12 : decode cX9_feed 12 = .ok (.ldc 70, 2) := by decide +kernel
end
section
theorem dX9_feed_14 : decode cX9_feed 14 = .ok (.ireturn, 1) := by decide +kernel
theorem dX9_feed_15 : decode cX9_feed 15 = .ok (.aload_n 0, 1) := by decide +kernel
theorem dX9_feed_16 : decode cX9_feed 16 = .ok (.getfield 88, 3) := by decide +kernel
theorem dX9_feed_19 : decode cX9_feed 19 = .ok (.bipush 100, 2) := by decide +kernel
theorem dX9_feed_21 : decode cX9_feed 21 = .ok (.if_icmp .ne 6, 3) := by decide +kernel
theorem dX9_feed_24 : decode cX9_feed 24 = .ok (.ldc 91, 2) := by decide +kernel
theorem dX9_feed_26 : decode cX9_feed 26 = .ok (.ireturn, 1) := by decide +kernel
theorem dX9_feed_27 : decode cX9_feed 27 = .ok (.aload_n 0, 1) := by decide +kernel
theorem dX9_feed_28 : decode cX9_feed 28 = .ok (.getfield 26, 3) := by decide +kernel
theorem dX9_feed_31 : decode cX9_feed 31 = .ok (.aload_n 0, 1) := by decide +kernel
theorem dX9_feed_32 : decode cX9_feed 32 = .ok (.getfield 88, 3) := by decide +kernel
theorem dX9_feed_35 : decode cX9_feed 35 = .ok (.iload_n 1, 1) := by decide +kernel
theorem dX9_feed_36 : decode cX9_feed 36 = .ok (.iastore, 1) := by decide +kernel
theorem dX9_feed_37 : decode cX9_feed 37 = .ok (.aload_n 0, 1) := by decide +kernel
theorem dX9_feed_38 : decode cX9_feed 38 = .ok (.dup, 1) := by decide +kernel
theorem dX9_feed_39 : decode cX9_feed 39 = .ok (.getfield 88, 3) := by decide +kernel
theorem dX9_feed_42 : decode cX9_feed 42 = .ok (.iconst 1, 1) := by decide +kernel
theorem dX9_feed_43 : decode cX9_feed 43 = .ok (.iadd, 1) := by decide +kernel
theorem dX9_feed_44 : decode cX9_feed 44 = .ok (.putfield 88, 3) := by decide +kernel
theorem dX9_feed_47 : decode cX9_feed 47 = .ok (.aload_n 0, 1) := by decide +kernel
theorem dX9_feed_48 : decode cX9_feed 48 = .ok (.getfield 88, 3) := by decide +kernel
theorem dX9_feed_51 : decode cX9_feed 51 = .ok (.ireturn, 1) := by decide +kernel
theorem dX9_isLetter_0 : decode cX9_isLetter 0 = .ok (.aload_n 0, 1) := by decide +kernel
theorem dX9_isLetter_1 : decode cX9_isLetter 1 = .ok (.getfield 92, 3) := by decide +kernel
theorem dX9_isLetter_4 : decode cX9_isLetter 4 = .ok (.aload_n 0, 1) := by decide +kernel
theorem dX9_isLetter_5 : decode cX9_isLetter 5 = .ok (.getfield 88, 3) := by decide +kernel
theorem dX9_isLetter_8 : decode cX9_isLetter 8 = .ok (.if_icmp .ge 20, 3) := by decide +kernel
theorem dX9_isLetter_11 : decode cX9_isLetter 11 = .ok (.aload_n 0, 1) := by decide +kernel
theorem dX9_isLetter_12 : decode cX9_isLetter 12 = .ok (.getfield 26, 3) := by decide +kernel
theorem dX9_isLetter_15 : decode cX9_isLetter 15 = .ok (.aload_n 0, 1) := by decide +kernel
theorem dX9_isLetter_16 : decode cX9_isLetter 16 = .ok (.getfield 92, 3) := by decide +kernel
theorem dX9_isLetter_19 : decode cX9_isLetter 19 = .ok (.iaload, 1) := by decide +kernel
theorem dX9_isLetter_20 : decode cX9_isLetter 20 = .ok (.iload_n 1, 1) := by decide +kernel
theorem dX9_isLetter_21 : decode cX9_isLetter 21 = .ok (.if_icmp .ne 7, 3) := by decide +kernel
theorem dX9_isLetter_24 : decode cX9_isLetter 24 = .ok (.iconst 1, 1) := by decide +kernel
theorem dX9_isLetter_25 : decode cX9_isLetter 25 = .ok (.goto 4, 3) := by decide +kernel
theorem dX9_isLetter_28 : decode cX9_isLetter 28 = .ok (.iconst 0, 1) := by decide +kernel
theorem dX9_isLetter_29 : decode cX9_isLetter 29 = .ok (.ireturn, 1) := by decide +kernel
theorem dX9_isFigure_0 : decode cX9_isFigure 0 = .ok (.iload_n 1, 1) := by decide +kernel
theorem dX9_isFigure_1 : decode cX9_isFigure 1 = .ok (.aload_n 0, 1) := by decide +kernel
theorem dX9_isFigure_2 : decode cX9_isFigure 2 = .ok (.getfield 88, 3) := by decide +kernel
theorem dX9_isFigure_5 : decode cX9_isFigure 5 = .ok (.if_icmp .ge 26, 3) := by decide +kernel
theorem dX9_isFigure_8 : decode cX9_isFigure 8 = .ok (.aload_n 0, 1) := by decide +kernel
theorem dX9_isFigure_9 : decode cX9_isFigure 9 = .ok (.getfield 26, 3) := by decide +kernel
theorem dX9_isFigure_12 : decode cX9_isFigure 12 = .ok (.iload_n 1, 1) := by decide +kernel
theorem dX9_isFigure_13 : decode cX9_isFigure 13 = .ok (.iaload, 1) := by decide +kernel
theorem dX9_isFigure_14 : decode cX9_isFigure 14 = .ok (.i2l, 1) := by decide +kernel
theorem dX9_isFigure_15 : decode cX9_isFigure 15 = .ok (.ldc2_w 95, 3) := by decide +kernel
theorem dX9_isFigure_18 : decode cX9_isFigure 18 = .ok (.ldc2_w 97, 3) := by decide +kernel
theorem dX9_isFigure_21 : decode cX9_isFigure 21 = .ok (.invokestatic 60, 3) := by decide +kernel
theorem dX9_isFigure_24 : decode cX9_isFigure 24 = .ok (.ifCond .eq 7, 3) := by decide +kernel
theorem dX9_isFigure_27 : decode cX9_isFigure 27 = .ok (.iconst 1, 1) := by decide +kernel
theorem dX9_isFigure_28 : decode cX9_isFigure 28 = .ok (.goto 4, 3) := by decide +kernel
theorem dX9_isFigure_31 : decode cX9_isFigure 31 = .ok (.iconst 0, 1) := by decide +kernel
theorem dX9_isFigure_32 : decode cX9_isFigure 32 = .ok (.ireturn, 1) := by decide +kernel
theorem dX9_refuse_0 : decode cX9_refuse 0 = .ok (.aload_n 0, 1) := by decide +kernel
theorem dX9_refuse_1 : decode cX9_refuse 1 = .ok (.iload_n 1, 1) := by decide +kernel
theorem dX9_refuse_2 : decode cX9_refuse 2 = .ok (.putfield 99, 3) := by decide +kernel
theorem dX9_refuse_5 : decode cX9_refuse 5 = .ok (.iconst 0, 1) := by decide +kernel
theorem dX9_refuse_6 : decode cX9_refuse 6 = .ok (.ireturn, 1) := by decide +kernel
theorem dX9_sign_0 : decode cX9_sign 0 = .ok (.aload_n 0, 1) := by decide +kernel
theorem dX9_sign_1 : decode cX9_sign 1 = .ok (.iload_n 1, 1) := by decide +kernel
theorem dX9_sign_2 : decode cX9_sign 2 = .ok (.invokevirtual 102, 3) := by decide +kernel
theorem dX9_sign_5 : decode cX9_sign 5 = .ok (.ifCond .ne 9, 3) := by decide +kernel
theorem dX9_sign_8 : decode cX9_sign 8 = .ok (.aload_n 0, 1) := by decide +kernel
theorem dX9_sign_9 : decode cX9_sign 9 = .ok (.iconst 1, 1) := by decide +kernel
theorem dX9_sign_10 : decode cX9_sign 10 = .ok (.invokevirtual 105, 3) := by decide +kernel
theorem dX9_sign_13 : decode cX9_sign 13 = .ok (.ireturn, 1) := by decide +kernel
theorem dX9_sign_14 : decode cX9_sign 14 = .ok (.aload_n 0, 1) := by decide +kernel
theorem dX9_sign_15 : decode cX9_sign 15 = .ok (.dup, 1) := by decide +kernel
theorem dX9_sign_16 : decode cX9_sign 16 = .ok (.getfield 92, 3) := by decide +kernel
theorem dX9_sign_19 : decode cX9_sign 19 = .ok (.iconst 1, 1) := by decide +kernel
theorem dX9_sign_20 : decode cX9_sign 20 = .ok (.iadd, 1) := by decide +kernel
theorem dX9_sign_21 : decode cX9_sign 21 = .ok (.putfield 92, 3) := by decide +kernel
theorem dX9_sign_24 : decode cX9_sign 24 = .ok (.iconst 1, 1) := by decide +kernel
theorem dX9_sign_25 : decode cX9_sign 25 = .ok (.ireturn, 1) := by decide +kernel
theorem dX9_readsNumber_0 : decode cX9_readsNumber 0 = .ok (.aload_n 0, 1) := by decide +kernel
theorem dX9_readsNumber_1 : decode cX9_readsNumber 1 = .ok (.aload_n 0, 1) := by decide +kernel
theorem dX9_readsNumber_2 : decode cX9_readsNumber 2 = .ok (.getfield 92, 3) := by decide +kernel
theorem dX9_readsNumber_5 : decode cX9_readsNumber 5 = .ok (.invokevirtual 108, 3) := by decide +kernel
theorem dX9_readsNumber_8 : decode cX9_readsNumber 8 = .ok (.ifCond .eq 29, 3) := by decide +kernel
theorem dX9_readsNumber_11 : decode cX9_readsNumber 11 = .ok (.aload_n 0, 1) := by decide +kernel
theorem dX9_readsNumber_12 : decode cX9_readsNumber 12 = .ok (.aload_n 0, 1) := by decide +kernel
theorem dX9_readsNumber_13 : decode cX9_readsNumber 13 = .ok (.getfield 92, 3) := by decide +kernel
theorem dX9_readsNumber_16 : decode cX9_readsNumber 16 = .ok (.iconst 1, 1) := by decide +kernel
theorem dX9_readsNumber_17 : decode cX9_readsNumber 17 = .ok (.iadd, 1) := by decide +kernel
theorem dX9_readsNumber_18 : decode cX9_readsNumber 18 = .ok (.invokevirtual 108, 3) := by decide +kernel
theorem dX9_readsNumber_21 : decode cX9_readsNumber 21 = .ok (.ifCond .eq 22, 3) := by decide +kernel
theorem dX9_readsNumber_24 : decode cX9_readsNumber 24 = .ok (.aload_n 0, 1) := by decide +kernel
theorem dX9_readsNumber_25 : decode cX9_readsNumber 25 = .ok (.aload_n 0, 1) := by decide +kernel
theorem dX9_readsNumber_26 : decode cX9_readsNumber 26 = .ok (.getfield 92, 3) := by decide +kernel
theorem dX9_readsNumber_29 : decode cX9_readsNumber 29 = .ok (.iconst 2, 1) := by decide +kernel
theorem dX9_readsNumber_30 : decode cX9_readsNumber 30 = .ok (.iadd, 1) := by decide +kernel
theorem dX9_readsNumber_31 : decode cX9_readsNumber 31 = .ok (.invokevirtual 108, 3) := by decide +kernel
theorem dX9_readsNumber_34 : decode cX9_readsNumber 34 = .ok (.ifCond .eq 9, 3) := by decide +kernel
theorem dX9_readsNumber_37 : decode cX9_readsNumber 37 = .ok (.aload_n 0, 1) := by decide +kernel
theorem dX9_readsNumber_38 : decode cX9_readsNumber 38 = .ok (.iconst 1, 1) := by decide +kernel
theorem dX9_readsNumber_39 : decode cX9_readsNumber 39 = .ok (.invokevirtual 105, 3) := by decide +kernel
theorem dX9_readsNumber_42 : decode cX9_readsNumber 42 = .ok (.ireturn, 1) := by decide +kernel
theorem dX9_readsNumber_43 : decode cX9_readsNumber 43 = .ok (.aload_n 0, 1) := by decide +kernel
theorem dX9_readsNumber_44 : decode cX9_readsNumber 44 = .ok (.aload_n 0, 1) := by decide +kernel
theorem dX9_readsNumber_45 : decode cX9_readsNumber 45 = .ok (.getfield 26, 3) := by decide +kernel
theorem dX9_readsNumber_48 : decode cX9_readsNumber 48 = .ok (.aload_n 0, 1) := by decide +kernel
theorem dX9_readsNumber_49 : decode cX9_readsNumber 49 = .ok (.getfield 92, 3) := by decide +kernel
theorem dX9_readsNumber_52 : decode cX9_readsNumber 52 = .ok (.iaload, 1) := by decide +kernel
theorem dX9_readsNumber_53 : decode cX9_readsNumber 53 = .ok (.bipush 48, 2) := by decide +kernel
theorem dX9_readsNumber_55 : decode cX9_readsNumber 55 = .ok (.isub, 1) := by decide +kernel
theorem dX9_readsNumber_56 : decode cX9_readsNumber 56 = .ok (.putfield 111, 3) := by decide +kernel
theorem dX9_readsNumber_59 : decode cX9_readsNumber 59 = .ok (.aload_n 0, 1) := by decide +kernel
theorem dX9_readsNumber_60 : decode cX9_readsNumber 60 = .ok (.aload_n 0, 1) := by decide +kernel
theorem dX9_readsNumber_61 : decode cX9_readsNumber 61 = .ok (.getfield 92, 3) := by decide +kernel
theorem dX9_readsNumber_64 : decode cX9_readsNumber 64 = .ok (.iconst 1, 1) := by decide +kernel
theorem dX9_readsNumber_65 : decode cX9_readsNumber 65 = .ok (.iadd, 1) := by decide +kernel
theorem dX9_readsNumber_66 : decode cX9_readsNumber 66 = .ok (.invokevirtual 108, 3) := by decide +kernel
theorem dX9_readsNumber_69 : decode cX9_readsNumber 69 = .ok (.ifCond .eq 7, 3) := by decide +kernel
theorem dX9_readsNumber_72 : decode cX9_readsNumber 72 = .ok (.iconst 2, 1) := by decide +kernel
theorem dX9_readsNumber_73 : decode cX9_readsNumber 73 = .ok (.goto 4, 3) := by decide +kernel
theorem dX9_readsNumber_76 : decode cX9_readsNumber 76 = .ok (.iconst 1, 1) := by decide +kernel
theorem dX9_readsNumber_77 : decode cX9_readsNumber 77 = .ok (.istore_n 3, 1) := by decide +kernel
theorem dX9_readsNumber_78 : decode cX9_readsNumber 78 = .ok (.aload_n 0, 1) := by decide +kernel
theorem dX9_readsNumber_79 : decode cX9_readsNumber 79 = .ok (.iload_n 3, 1) := by decide +kernel
theorem dX9_readsNumber_80 : decode cX9_readsNumber 80 = .ok (.iconst 2, 1) := by decide +kernel
theorem dX9_readsNumber_81 : decode cX9_readsNumber 81 = .ok (.if_icmp .ne 28, 3) := by decide +kernel
theorem dX9_readsNumber_84 : decode cX9_readsNumber 84 = .ok (.bipush 10, 2) := by decide +kernel
theorem dX9_readsNumber_86 : decode cX9_readsNumber 86 = .ok (.aload_n 0, 1) := by decide +kernel
theorem dX9_readsNumber_87 : decode cX9_readsNumber 87 = .ok (.getfield 111, 3) := by decide +kernel
theorem dX9_readsNumber_90 : decode cX9_readsNumber 90 = .ok (.imul, 1) := by decide +kernel
theorem dX9_readsNumber_91 : decode cX9_readsNumber 91 = .ok (.aload_n 0, 1) := by decide +kernel
theorem dX9_readsNumber_92 : decode cX9_readsNumber 92 = .ok (.getfield 26, 3) := by decide +kernel
theorem dX9_readsNumber_95 : decode cX9_readsNumber 95 = .ok (.aload_n 0, 1) := by decide +kernel
theorem dX9_readsNumber_96 : decode cX9_readsNumber 96 = .ok (.getfield 92, 3) := by decide +kernel
theorem dX9_readsNumber_99 : decode cX9_readsNumber 99 = .ok (.iconst 1, 1) := by decide +kernel
theorem dX9_readsNumber_100 : decode cX9_readsNumber 100 = .ok (.iadd, 1) := by decide +kernel
theorem dX9_readsNumber_101 : decode cX9_readsNumber 101 = .ok (.iaload, 1) := by decide +kernel
theorem dX9_readsNumber_102 : decode cX9_readsNumber 102 = .ok (.iadd, 1) := by decide +kernel
theorem dX9_readsNumber_103 : decode cX9_readsNumber 103 = .ok (.bipush 48, 2) := by decide +kernel
theorem dX9_readsNumber_105 : decode cX9_readsNumber 105 = .ok (.isub, 1) := by decide +kernel
theorem dX9_readsNumber_106 : decode cX9_readsNumber 106 = .ok (.goto 7, 3) := by decide +kernel
theorem dX9_readsNumber_109 : decode cX9_readsNumber 109 = .ok (.aload_n 0, 1) := by decide +kernel
theorem dX9_readsNumber_110 : decode cX9_readsNumber 110 = .ok (.getfield 111, 3) := by decide +kernel
theorem dX9_readsNumber_113 : decode cX9_readsNumber 113 = .ok (.putfield 111, 3) := by decide +kernel
theorem dX9_readsNumber_116 : decode cX9_readsNumber 116 = .ok (.aload_n 0, 1) := by decide +kernel
theorem dX9_readsNumber_117 : decode cX9_readsNumber 117 = .ok (.getfield 111, 3) := by decide +kernel
theorem dX9_readsNumber_120 : decode cX9_readsNumber 120 = .ok (.i2l, 1) := by decide +kernel
theorem dX9_readsNumber_121 : decode cX9_readsNumber 121 = .ok (.iload_n 1, 1) := by decide +kernel
theorem dX9_readsNumber_122 : decode cX9_readsNumber 122 = .ok (.i2l, 1) := by decide +kernel
theorem dX9_readsNumber_123 : decode cX9_readsNumber 123 = .ok (.iload_n 2, 1) := by decide +kernel
theorem dX9_readsNumber_124 : decode cX9_readsNumber 124 = .ok (.i2l, 1) := by decide +kernel
theorem dX9_readsNumber_125 : decode cX9_readsNumber 125 = .ok (.invokestatic 60, 3) := by decide +kernel
theorem dX9_readsNumber_128 : decode cX9_readsNumber 128 = .ok (.ifCond .ne 9, 3) := by decide +kernel
theorem dX9_readsNumber_131 : decode cX9_readsNumber 131 = .ok (.aload_n 0, 1) := by decide +kernel
theorem dX9_readsNumber_132 : decode cX9_readsNumber 132 = .ok (.iconst 2, 1) := by decide +kernel
theorem dX9_readsNumber_133 : decode cX9_readsNumber 133 = .ok (.invokevirtual 105, 3) := by decide +kernel
theorem dX9_readsNumber_136 : decode cX9_readsNumber 136 = .ok (.ireturn, 1) := by decide +kernel
theorem dX9_readsNumber_137 : decode cX9_readsNumber 137 = .ok (.aload_n 0, 1) := by decide +kernel
theorem dX9_readsNumber_138 : decode cX9_readsNumber 138 = .ok (.dup, 1) := by decide +kernel
theorem dX9_readsNumber_139 : decode cX9_readsNumber 139 = .ok (.getfield 92, 3) := by decide +kernel
theorem dX9_readsNumber_142 : decode cX9_readsNumber 142 = .ok (.iload_n 3, 1) := by decide +kernel
theorem dX9_readsNumber_143 : decode cX9_readsNumber 143 = .ok (.iadd, 1) := by decide +kernel
theorem dX9_readsNumber_144 : decode cX9_readsNumber 144 = .ok (.putfield 92, 3) := by decide +kernel
theorem dX9_readsNumber_147 : decode cX9_readsNumber 147 = .ok (.iconst 1, 1) := by decide +kernel
theorem dX9_readsNumber_148 : decode cX9_readsNumber 148 = .ok (.ireturn, 1) := by decide +kernel
theorem dX9_readsLaw_0 : decode cX9_readsLaw 0 = .ok (.aload_n 0, 1) := by decide +kernel
theorem dX9_readsLaw_1 : decode cX9_readsLaw 1 = .ok (.bipush 99, 2) := by decide +kernel
theorem dX9_readsLaw_3 : decode cX9_readsLaw 3 = .ok (.invokevirtual 114, 3) := by decide +kernel
theorem dX9_readsLaw_6 : decode cX9_readsLaw 6 = .ok (.ifCond .ne 5, 3) := by decide +kernel
theorem dX9_readsLaw_9 : decode cX9_readsLaw 9 = .ok (.iconst 0, 1) := by decide +kernel
theorem dX9_readsLaw_10 : decode cX9_readsLaw 10 = .ok (.ireturn, 1) := by decide +kernel
theorem dX9_readsLaw_11 : decode cX9_readsLaw 11 = .ok (.iconst 0, 1) := by decide +kernel
theorem dX9_readsLaw_12 : decode cX9_readsLaw 12 = .ok (.istore_n 1, 1) := by decide +kernel
theorem dX9_readsLaw_13 : decode cX9_readsLaw 13 = .ok (.iload_n 1, 1) := by decide +kernel
theorem dX9_readsLaw_14 : decode cX9_readsLaw 14 = .ok (.bipush 6, 2) := by decide +kernel
theorem dX9_readsLaw_16 : decode cX9_readsLaw 16 = .ok (.if_icmp .ge 62, 3) := by decide +kernel
theorem dX9_readsLaw_19 : decode cX9_readsLaw 19 = .ok (.iload_n 1, 1) := by decide +kernel
theorem dX9_readsLaw_20 : decode cX9_readsLaw 20 = .ok (.ifCond .le 12, 3) := by decide +kernel
theorem dX9_readsLaw_23 : decode cX9_readsLaw 23 = .ok (.aload_n 0, 1) := by decide +kernel
theorem dX9_readsLaw_24 : decode cX9_readsLaw 24 = .ok (.bipush 44, 2) := by decide +kernel
theorem dX9_readsLaw_26 : decode cX9_readsLaw 26 = .ok (.invokevirtual 114, 3) := by decide +kernel
theorem dX9_readsLaw_29 : decode cX9_readsLaw 29 = .ok (.ifCond .eq 22, 3) := by decide +kernel
theorem dX9_readsLaw_32 : decode cX9_readsLaw 32 = .ok (.aload_n 0, 1) := by decide +kernel
theorem dX9_readsLaw_33 : decode cX9_readsLaw 33 = .ok (.aload_n 0, 1) := by decide +kernel
theorem dX9_readsLaw_34 : decode cX9_readsLaw 34 = .ok (.getfield 32, 3) := by decide +kernel
theorem dX9_readsLaw_37 : decode cX9_readsLaw 37 = .ok (.iload_n 1, 1) := by decide +kernel
theorem dX9_readsLaw_38 : decode cX9_readsLaw 38 = .ok (.iaload, 1) := by decide +kernel
theorem dX9_readsLaw_39 : decode cX9_readsLaw 39 = .ok (.aload_n 0, 1) := by decide +kernel
theorem dX9_readsLaw_40 : decode cX9_readsLaw 40 = .ok (.getfield 35, 3) := by decide +kernel
theorem dX9_readsLaw_43 : decode cX9_readsLaw 43 = .ok (.iload_n 1, 1) := by decide +kernel
theorem dX9_readsLaw_44 : decode cX9_readsLaw 44 = .ok (.iaload, 1) := by decide +kernel
theorem dX9_readsLaw_45 : decode cX9_readsLaw 45 = .ok (.invokevirtual 117, 3) := by decide +kernel
theorem dX9_readsLaw_48 : decode cX9_readsLaw 48 = .ok (.ifCond .ne 5, 3) := by decide +kernel
theorem dX9_readsLaw_51 : decode cX9_readsLaw 51 = .ok (.iconst 0, 1) := by decide +kernel
theorem dX9_readsLaw_52 : decode cX9_readsLaw 52 = .ok (.ireturn, 1) := by decide +kernel
theorem dX9_readsLaw_53 : decode cX9_readsLaw 53 = .ok (.aload_n 0, 1) := by decide +kernel
theorem dX9_readsLaw_54 : decode cX9_readsLaw 54 = .ok (.getfield 7, 3) := by decide +kernel
theorem dX9_readsLaw_57 : decode cX9_readsLaw 57 = .ok (.sipush 1053, 3) := by decide +kernel
theorem dX9_readsLaw_60 : decode cX9_readsLaw 60 = .ok (.aload_n 0, 1) := by decide +kernel
theorem dX9_readsLaw_61 : decode cX9_readsLaw 61 = .ok (.getfield 38, 3) := by decide +kernel
theorem dX9_readsLaw_64 : decode cX9_readsLaw 64 = .ok (.iload_n 1, 1) := by decide +kernel
theorem dX9_readsLaw_65 : decode cX9_readsLaw 65 = .ok (.iaload, 1) := by decide +kernel
theorem dX9_readsLaw_66 : decode cX9_readsLaw 66 = .ok (.iadd, 1) := by decide +kernel
theorem dX9_readsLaw_67 : decode cX9_readsLaw 67 = .ok (.aload_n 0, 1) := by decide +kernel
theorem dX9_readsLaw_68 : decode cX9_readsLaw 68 = .ok (.getfield 111, 3) := by decide +kernel
theorem dX9_readsLaw_71 : decode cX9_readsLaw 71 = .ok (.iastore, 1) := by decide +kernel
theorem dX9_readsLaw_72 : decode cX9_readsLaw 72 = .ok (.iinc 1 1, 3) := by decide +kernel
theorem dX9_readsLaw_75 : decode cX9_readsLaw 75 = .ok (.goto (-62), 3) := by decide +kernel
theorem dX9_readsLaw_78 : decode cX9_readsLaw 78 = .ok (.aload_n 0, 1) := by decide +kernel
theorem dX9_readsLaw_79 : decode cX9_readsLaw 79 = .ok (.bipush 59, 2) := by decide +kernel
theorem dX9_readsLaw_81 : decode cX9_readsLaw 81 = .ok (.invokevirtual 114, 3) := by decide +kernel
theorem dX9_readsLaw_84 : decode cX9_readsLaw 84 = .ok (.ireturn, 1) := by decide +kernel
theorem dX9_kindOfLetter_0 : decode cX9_kindOfLetter 0 = .ok (.iload_n 0, 1) := by decide +kernel
theorem dX9_kindOfLetter_1 : decode cX9_kindOfLetter 1 = .ok (.bipush 100, 2) := by decide +kernel
theorem dX9_kindOfLetter_3 : decode cX9_kindOfLetter 3 = .ok (.if_icmp .ne 7, 3) := by decide +kernel
theorem dX9_kindOfLetter_6 : decode cX9_kindOfLetter 6 = .ok (.iconst 1, 1) := by decide +kernel
theorem dX9_kindOfLetter_7 : decode cX9_kindOfLetter 7 = .ok (.goto 44, 3) := by decide +kernel
theorem dX9_kindOfLetter_10 : decode cX9_kindOfLetter 10 = .ok (.iload_n 0, 1) := by decide +kernel
theorem dX9_kindOfLetter_11 : decode cX9_kindOfLetter 11 = .ok (.bipush 112, 2) := by decide +kernel
theorem dX9_kindOfLetter_13 : decode cX9_kindOfLetter 13 = .ok (.if_icmp .ne 7, 3) := by decide +kernel
theorem dX9_kindOfLetter_16 : decode cX9_kindOfLetter 16 = .ok (.iconst 2, 1) := by decide +kernel
theorem dX9_kindOfLetter_17 : decode cX9_kindOfLetter 17 = .ok (.goto 34, 3) := by decide +kernel
theorem dX9_kindOfLetter_20 : decode cX9_kindOfLetter 20 = .ok (.iload_n 0, 1) := by decide +kernel
theorem dX9_kindOfLetter_21 : decode cX9_kindOfLetter 21 = .ok (.bipush 109, 2) := by decide +kernel
theorem dX9_kindOfLetter_23 : decode cX9_kindOfLetter 23 = .ok (.if_icmp .ne 7, 3) := by decide +kernel
theorem dX9_kindOfLetter_26 : decode cX9_kindOfLetter 26 = .ok (.iconst 3, 1) := by decide +kernel
theorem dX9_kindOfLetter_27 : decode cX9_kindOfLetter 27 = .ok (.goto 24, 3) := by decide +kernel
theorem dX9_kindOfLetter_30 : decode cX9_kindOfLetter 30 = .ok (.iload_n 0, 1) := by decide +kernel
theorem dX9_kindOfLetter_31 : decode cX9_kindOfLetter 31 = .ok (.bipush 119, 2) := by decide +kernel
theorem dX9_kindOfLetter_33 : decode cX9_kindOfLetter 33 = .ok (.if_icmp .ne 7, 3) := by decide +kernel
theorem dX9_kindOfLetter_36 : decode cX9_kindOfLetter 36 = .ok (.iconst 4, 1) := by decide +kernel
theorem dX9_kindOfLetter_37 : decode cX9_kindOfLetter 37 = .ok (.goto 14, 3) := by decide +kernel
theorem dX9_kindOfLetter_40 : decode cX9_kindOfLetter 40 = .ok (.iload_n 0, 1) := by decide +kernel
theorem dX9_kindOfLetter_41 : decode cX9_kindOfLetter 41 = .ok (.bipush 117, 2) := by decide +kernel
theorem dX9_kindOfLetter_43 : decode cX9_kindOfLetter 43 = .ok (.if_icmp .ne 7, 3) := by decide +kernel
theorem dX9_kindOfLetter_46 : decode cX9_kindOfLetter 46 = .ok (.iconst 5, 1) := by decide +kernel
theorem dX9_kindOfLetter_47 : decode cX9_kindOfLetter 47 = .ok (.goto 4, 3) := by decide +kernel
theorem dX9_kindOfLetter_50 : decode cX9_kindOfLetter 50 = .ok (.iconst 0, 1) := by decide +kernel
theorem dX9_kindOfLetter_51 : decode cX9_kindOfLetter 51 = .ok (.ireturn, 1) := by decide +kernel
theorem dX9_readsHouse_0 : decode cX9_readsHouse 0 = .ok (.aload_n 0, 1) := by decide +kernel
theorem dX9_readsHouse_1 : decode cX9_readsHouse 1 = .ok (.getfield 7, 3) := by decide +kernel
theorem dX9_readsHouse_4 : decode cX9_readsHouse 4 = .ok (.sipush 1054, 3) := by decide +kernel
theorem dX9_readsHouse_7 : decode cX9_readsHouse 7 = .ok (.iaload, 1) := by decide +kernel
theorem dX9_readsHouse_8 : decode cX9_readsHouse 8 = .ok (.istore_n 1, 1) := by decide +kernel
theorem dX9_readsHouse_9 : decode cX9_readsHouse 9 = .ok (.iload_n 1, 1) := by decide +kernel
theorem dX9_readsHouse_10 : decode cX9_readsHouse 10 = .ok (.bipush 6, 2) := by decide +kernel
theorem dX9_readsHouse_12 : decode cX9_readsHouse 12 = .ok (.if_icmp .ne 9, 3) := by decide +kernel
theorem dX9_readsHouse_15 : decode cX9_readsHouse 15 = .ok (.aload_n 0, 1) := by decide +kernel
theorem dX9_readsHouse_16 : decode cX9_readsHouse 16 = .ok (.iconst 3, 1) := by decide +kernel
theorem dX9_readsHouse_17 : decode cX9_readsHouse 17 = .ok (.invokevirtual 105, 3) := by decide +kernel
theorem dX9_readsHouse_20 : decode cX9_readsHouse 20 = .ok (.ireturn, 1) := by decide +kernel
theorem dX9_readsHouse_21 : decode cX9_readsHouse 21 = .ok (.aload_n 0, 1) := by decide +kernel
theorem dX9_readsHouse_22 : decode cX9_readsHouse 22 = .ok (.getfield 7, 3) := by decide +kernel
theorem dX9_readsHouse_25 : decode cX9_readsHouse 25 = .ok (.sipush 1062, 3) := by decide +kernel
theorem dX9_readsHouse_28 : decode cX9_readsHouse 28 = .ok (.iload_n 1, 1) := by decide +kernel
theorem dX9_readsHouse_29 : decode cX9_readsHouse 29 = .ok (.iadd, 1) := by decide +kernel
theorem dX9_readsHouse_30 : decode cX9_readsHouse 30 = .ok (.aload_n 0, 1) := by decide +kernel
theorem dX9_readsHouse_31 : decode cX9_readsHouse 31 = .ok (.getfield 26, 3) := by decide +kernel
theorem dX9_readsHouse_34 : decode cX9_readsHouse 34 = .ok (.aload_n 0, 1) := by decide +kernel
theorem dX9_readsHouse_35 : decode cX9_readsHouse 35 = .ok (.getfield 92, 3) := by decide +kernel
theorem dX9_readsHouse_38 : decode cX9_readsHouse 38 = .ok (.iaload, 1) := by decide +kernel
theorem dX9_readsHouse_39 : decode cX9_readsHouse 39 = .ok (.invokestatic 121, 3) := by decide +kernel
theorem dX9_readsHouse_42 : decode cX9_readsHouse 42 = .ok (.iastore, 1) := by decide +kernel
theorem dX9_readsHouse_43 : decode cX9_readsHouse 43 = .ok (.aload_n 0, 1) := by decide +kernel
theorem dX9_readsHouse_44 : decode cX9_readsHouse 44 = .ok (.dup, 1) := by decide +kernel
theorem dX9_readsHouse_45 : decode cX9_readsHouse 45 = .ok (.getfield 92, 3) := by decide +kernel
theorem dX9_readsHouse_48 : decode cX9_readsHouse 48 = .ok (.iconst 1, 1) := by decide +kernel
theorem dX9_readsHouse_49 : decode cX9_readsHouse 49 = .ok (.iadd, 1) := by decide +kernel
theorem dX9_readsHouse_50 : decode cX9_readsHouse 50 = .ok (.putfield 92, 3) := by decide +kernel
theorem dX9_readsHouse_53 : decode cX9_readsHouse 53 = .ok (.aload_n 0, 1) := by decide +kernel
theorem dX9_readsHouse_54 : decode cX9_readsHouse 54 = .ok (.iconst 1, 1) := by decide +kernel
theorem dX9_readsHouse_55 : decode cX9_readsHouse 55 = .ok (.aload_n 0, 1) := by decide +kernel
theorem dX9_readsHouse_56 : decode cX9_readsHouse 56 = .ok (.getfield 7, 3) := by decide +kernel
theorem dX9_readsHouse_59 : decode cX9_readsHouse 59 = .ok (.sipush 1053, 3) := by decide +kernel
theorem dX9_readsHouse_62 : decode cX9_readsHouse 62 = .ok (.iaload, 1) := by decide +kernel
theorem dX9_readsHouse_63 : decode cX9_readsHouse 63 = .ok (.invokevirtual 117, 3) := by decide +kernel
theorem dX9_readsHouse_66 : decode cX9_readsHouse 66 = .ok (.ifCond .ne 5, 3) := by decide +kernel
theorem dX9_readsHouse_69 : decode cX9_readsHouse 69 = .ok (.iconst 0, 1) := by decide +kernel
theorem dX9_readsHouse_70 : decode cX9_readsHouse 70 = .ok (.ireturn, 1) := by decide +kernel
theorem dX9_readsHouse_71 : decode cX9_readsHouse 71 = .ok (.aload_n 0, 1) := by decide +kernel
theorem dX9_readsHouse_72 : decode cX9_readsHouse 72 = .ok (.getfield 111, 3) := by decide +kernel
theorem dX9_readsHouse_75 : decode cX9_readsHouse 75 = .ok (.istore_n 2, 1) := by decide +kernel
theorem dX9_readsHouse_76 : decode cX9_readsHouse 76 = .ok (.aload_n 0, 1) := by decide +kernel
theorem dX9_readsHouse_77 : decode cX9_readsHouse 77 = .ok (.bipush 44, 2) := by decide +kernel
theorem dX9_readsHouse_79 : decode cX9_readsHouse 79 = .ok (.invokevirtual 114, 3) := by decide +kernel
theorem dX9_readsHouse_82 : decode cX9_readsHouse 82 = .ok (.ifCond .ne 5, 3) := by decide +kernel
theorem dX9_readsHouse_85 : decode cX9_readsHouse 85 = .ok (.iconst 0, 1) := by decide +kernel
theorem dX9_readsHouse_86 : decode cX9_readsHouse 86 = .ok (.ireturn, 1) := by decide +kernel
theorem dX9_readsHouse_87 : decode cX9_readsHouse 87 = .ok (.aload_n 0, 1) := by decide +kernel
theorem dX9_readsHouse_88 : decode cX9_readsHouse 88 = .ok (.getfield 92, 3) := by decide +kernel
theorem dX9_readsHouse_91 : decode cX9_readsHouse 91 = .ok (.istore_n 3, 1) := by decide +kernel
theorem dX9_readsHouse_92 : decode cX9_readsHouse 92 = .ok (.aload_n 0, 1) := by decide +kernel
theorem dX9_readsHouse_93 : decode cX9_readsHouse 93 = .ok (.iconst 0, 1) := by decide +kernel
theorem dX9_readsHouse_94 : decode cX9_readsHouse 94 = .ok (.bipush 6, 2) := by decide +kernel
theorem dX9_readsHouse_96 : decode cX9_readsHouse 96 = .ok (.invokevirtual 117, 3) := by decide +kernel
theorem dX9_readsHouse_99 : decode cX9_readsHouse 99 = .ok (.ifCond .ne 5, 3) := by decide +kernel
theorem dX9_readsHouse_102 : decode cX9_readsHouse 102 = .ok (.iconst 0, 1) := by decide +kernel
theorem dX9_readsHouse_103 : decode cX9_readsHouse 103 = .ok (.ireturn, 1) := by decide +kernel
theorem dX9_readsHouse_104 : decode cX9_readsHouse 104 = .ok (.aload_n 0, 1) := by decide +kernel
theorem dX9_readsHouse_105 : decode cX9_readsHouse 105 = .ok (.sipush 1053, 3) := by decide +kernel
theorem dX9_readsHouse_108 : decode cX9_readsHouse 108 = .ok (.iload_n 2, 1) := by decide +kernel
theorem dX9_readsHouse_109 : decode cX9_readsHouse 109 = .ok (.aload_n 0, 1) := by decide +kernel
theorem dX9_readsHouse_110 : decode cX9_readsHouse 110 = .ok (.getfield 111, 3) := by decide +kernel
theorem dX9_readsHouse_113 : decode cX9_readsHouse 113 = .ok (.invokevirtual 124, 3) := by decide +kernel
theorem dX9_readsHouse_116 : decode cX9_readsHouse 116 = .ok (.ldc 128, 2) := by decide +kernel
theorem dX9_readsHouse_118 : decode cX9_readsHouse 118 = .ok (.if_icmp .eq 14, 3) := by decide +kernel
theorem dX9_readsHouse_121 : decode cX9_readsHouse 121 = .ok (.aload_n 0, 1) := by decide +kernel
theorem dX9_readsHouse_122 : decode cX9_readsHouse 122 = .ok (.iload_n 3, 1) := by decide +kernel
theorem dX9_readsHouse_123 : decode cX9_readsHouse 123 = .ok (.putfield 92, 3) := by decide +kernel
theorem dX9_readsHouse_126 : decode cX9_readsHouse 126 = .ok (.aload_n 0, 1) := by decide +kernel
theorem dX9_readsHouse_127 : decode cX9_readsHouse 127 = .ok (.iconst 2, 1) := by decide +kernel
theorem dX9_readsHouse_128 : decode cX9_readsHouse 128 = .ok (.invokevirtual 105, 3) := by decide +kernel
theorem dX9_readsHouse_131 : decode cX9_readsHouse 131 = .ok (.ireturn, 1) := by decide +kernel
theorem dX9_readsHouse_132 : decode cX9_readsHouse 132 = .ok (.aload_n 0, 1) := by decide +kernel
theorem dX9_readsHouse_133 : decode cX9_readsHouse 133 = .ok (.getfield 7, 3) := by decide +kernel
theorem dX9_readsHouse_136 : decode cX9_readsHouse 136 = .ok (.sipush 1068, 3) := by decide +kernel
theorem dX9_readsHouse_139 : decode cX9_readsHouse 139 = .ok (.iload_n 1, 1) := by decide +kernel
theorem dX9_readsHouse_140 : decode cX9_readsHouse 140 = .ok (.iadd, 1) := by decide +kernel
theorem dX9_readsHouse_141 : decode cX9_readsHouse 141 = .ok (.iload_n 2, 1) := by decide +kernel
theorem dX9_readsHouse_142 : decode cX9_readsHouse 142 = .ok (.iastore, 1) := by decide +kernel
theorem dX9_readsHouse_143 : decode cX9_readsHouse 143 = .ok (.aload_n 0, 1) := by decide +kernel
theorem dX9_readsHouse_144 : decode cX9_readsHouse 144 = .ok (.getfield 7, 3) := by decide +kernel
theorem dX9_readsHouse_147 : decode cX9_readsHouse 147 = .ok (.sipush 1074, 3) := by decide +kernel
theorem dX9_readsHouse_150 : decode cX9_readsHouse 150 = .ok (.iload_n 1, 1) := by decide +kernel
theorem dX9_readsHouse_151 : decode cX9_readsHouse 151 = .ok (.iadd, 1) := by decide +kernel
theorem dX9_readsHouse_152 : decode cX9_readsHouse 152 = .ok (.aload_n 0, 1) := by decide +kernel
theorem dX9_readsHouse_153 : decode cX9_readsHouse 153 = .ok (.getfield 111, 3) := by decide +kernel
theorem dX9_readsHouse_156 : decode cX9_readsHouse 156 = .ok (.iastore, 1) := by decide +kernel
theorem dX9_readsHouse_157 : decode cX9_readsHouse 157 = .ok (.aload_n 0, 1) := by decide +kernel
theorem dX9_readsHouse_158 : decode cX9_readsHouse 158 = .ok (.bipush 44, 2) := by decide +kernel
theorem dX9_readsHouse_160 : decode cX9_readsHouse 160 = .ok (.invokevirtual 114, 3) := by decide +kernel
theorem dX9_readsHouse_163 : decode cX9_readsHouse 163 = .ok (.ifCond .eq 12, 3) := by decide +kernel
theorem dX9_readsHouse_166 : decode cX9_readsHouse 166 = .ok (.aload_n 0, 1) := by decide +kernel
theorem dX9_readsHouse_167 : decode cX9_readsHouse 167 = .ok (.iconst 0, 1) := by decide +kernel
theorem dX9_readsHouse_168 : decode cX9_readsHouse 168 = .ok (.iconst 1, 1) := by decide +kernel
theorem dX9_readsHouse_169 : decode cX9_readsHouse 169 = .ok (.invokevirtual 117, 3) := by decide +kernel
theorem dX9_readsHouse_172 : decode cX9_readsHouse 172 = .ok (.ifCond .ne 5, 3) := by decide +kernel
theorem dX9_readsHouse_175 : decode cX9_readsHouse 175 = .ok (.iconst 0, 1) := by decide +kernel
theorem dX9_readsHouse_176 : decode cX9_readsHouse 176 = .ok (.ireturn, 1) := by decide +kernel
theorem dX9_readsHouse_177 : decode cX9_readsHouse 177 = .ok (.aload_n 0, 1) := by decide +kernel
theorem dX9_readsHouse_178 : decode cX9_readsHouse 178 = .ok (.getfield 7, 3) := by decide +kernel
theorem dX9_readsHouse_181 : decode cX9_readsHouse 181 = .ok (.sipush 1080, 3) := by decide +kernel
theorem dX9_readsHouse_184 : decode cX9_readsHouse 184 = .ok (.iload_n 1, 1) := by decide +kernel
theorem dX9_readsHouse_185 : decode cX9_readsHouse 185 = .ok (.iadd, 1) := by decide +kernel
theorem dX9_readsHouse_186 : decode cX9_readsHouse 186 = .ok (.aload_n 0, 1) := by decide +kernel
theorem dX9_readsHouse_187 : decode cX9_readsHouse 187 = .ok (.getfield 111, 3) := by decide +kernel
theorem dX9_readsHouse_190 : decode cX9_readsHouse 190 = .ok (.iastore, 1) := by decide +kernel
theorem dX9_readsHouse_191 : decode cX9_readsHouse 191 = .ok (.aload_n 0, 1) := by decide +kernel
theorem dX9_readsHouse_192 : decode cX9_readsHouse 192 = .ok (.getfield 7, 3) := by decide +kernel
theorem dX9_readsHouse_195 : decode cX9_readsHouse 195 = .ok (.sipush 1054, 3) := by decide +kernel
theorem dX9_readsHouse_198 : decode cX9_readsHouse 198 = .ok (.dup2, 1) := by decide +kernel
theorem dX9_readsHouse_199 : decode cX9_readsHouse 199 = .ok (.iaload, 1) := by decide +kernel
theorem dX9_readsHouse_200 : decode cX9_readsHouse 200 = .ok (.iconst 1, 1) := by decide +kernel
theorem dX9_readsHouse_201 : decode cX9_readsHouse 201 = .ok (.iadd, 1) := by decide +kernel
theorem dX9_readsHouse_202 : decode cX9_readsHouse 202 = .ok (.iastore, 1) := by decide +kernel
theorem dX9_readsHouse_203 : decode cX9_readsHouse 203 = .ok (.aload_n 0, 1) := by decide +kernel
theorem dX9_readsHouse_204 : decode cX9_readsHouse 204 = .ok (.bipush 59, 2) := by decide +kernel
theorem dX9_readsHouse_206 : decode cX9_readsHouse 206 = .ok (.invokevirtual 114, 3) := by decide +kernel
theorem dX9_readsHouse_209 : decode cX9_readsHouse 209 = .ok (.ireturn, 1) := by decide +kernel
theorem dX9_isSort_0 : decode cX9_isSort 0 = .ok (.aload_n 0, 1) := by decide +kernel
theorem dX9_isSort_1 : decode cX9_isSort 1 = .ok (.getfield 92, 3) := by decide +kernel
theorem dX9_isSort_4 : decode cX9_isSort 4 = .ok (.aload_n 0, 1) := by decide +kernel
theorem dX9_isSort_5 : decode cX9_isSort 5 = .ok (.getfield 88, 3) := by decide +kernel
theorem dX9_isSort_8 : decode cX9_isSort 8 = .ok (.if_icmp .ge 22, 3) := by decide +kernel
theorem dX9_isSort_11 : decode cX9_isSort 11 = .ok (.aload_n 0, 1) := by decide +kernel
theorem dX9_isSort_12 : decode cX9_isSort 12 = .ok (.getfield 26, 3) := by decide +kernel
theorem dX9_isSort_15 : decode cX9_isSort 15 = .ok (.aload_n 0, 1) := by decide +kernel
theorem dX9_isSort_16 : decode cX9_isSort 16 = .ok (.getfield 92, 3) := by decide +kernel
theorem dX9_isSort_19 : decode cX9_isSort 19 = .ok (.iaload, 1) := by decide +kernel
theorem dX9_isSort_20 : decode cX9_isSort 20 = .ok (.invokestatic 121, 3) := by decide +kernel
theorem dX9_isSort_23 : decode cX9_isSort 23 = .ok (.ifCond .le 7, 3) := by decide +kernel
theorem dX9_isSort_26 : decode cX9_isSort 26 = .ok (.iconst 1, 1) := by decide +kernel
theorem dX9_isSort_27 : decode cX9_isSort 27 = .ok (.goto 4, 3) := by decide +kernel
theorem dX9_isSort_30 : decode cX9_isSort 30 = .ok (.iconst 0, 1) := by decide +kernel
theorem dX9_isSort_31 : decode cX9_isSort 31 = .ok (.ireturn, 1) := by decide +kernel
theorem dX9_reads_0 : decode cX9_reads 0 = .ok (.iconst 0, 1) := by decide +kernel
theorem dX9_reads_1 : decode cX9_reads 1 = .ok (.istore_n 1, 1) := by decide +kernel
theorem dX9_reads_2 : decode cX9_reads 2 = .ok (.iload_n 1, 1) := by decide +kernel
theorem dX9_reads_3 : decode cX9_reads 3 = .ok (.bipush 39, 2) := by decide +kernel
theorem dX9_reads_5 : decode cX9_reads 5 = .ok (.if_icmp .ge 20, 3) := by decide +kernel
theorem dX9_reads_8 : decode cX9_reads 8 = .ok (.aload_n 0, 1) := by decide +kernel
theorem dX9_reads_9 : decode cX9_reads 9 = .ok (.getfield 7, 3) := by decide +kernel
theorem dX9_reads_12 : decode cX9_reads 12 = .ok (.sipush 1053, 3) := by decide +kernel
theorem dX9_reads_15 : decode cX9_reads 15 = .ok (.iload_n 1, 1) := by decide +kernel
theorem dX9_reads_16 : decode cX9_reads 16 = .ok (.iadd, 1) := by decide +kernel
theorem dX9_reads_17 : decode cX9_reads 17 = .ok (.iconst 0, 1) := by decide +kernel
theorem dX9_reads_18 : decode cX9_reads 18 = .ok (.iastore, 1) := by decide +kernel
theorem dX9_reads_19 : decode cX9_reads 19 = .ok (.iinc 1 1, 3) := by decide +kernel
theorem dX9_reads_22 : decode cX9_reads 22 = .ok (.goto (-20), 3) := by decide +kernel
theorem dX9_reads_25 : decode cX9_reads 25 = .ok (.aload_n 0, 1) := by decide +kernel
theorem dX9_reads_26 : decode cX9_reads 26 = .ok (.iconst 0, 1) := by decide +kernel
theorem dX9_reads_27 : decode cX9_reads 27 = .ok (.putfield 92, 3) := by decide +kernel
theorem dX9_reads_30 : decode cX9_reads 30 = .ok (.aload_n 0, 1) := by decide +kernel
theorem dX9_reads_31 : decode cX9_reads 31 = .ok (.invokevirtual 129, 3) := by decide +kernel
theorem dX9_reads_34 : decode cX9_reads 34 = .ok (.istore_n 1, 1) := by decide +kernel
theorem dX9_reads_35 : decode cX9_reads 35 = .ok (.iload_n 1, 1) := by decide +kernel
theorem dX9_reads_36 : decode cX9_reads 36 = .ok (.ifCond .eq 18, 3) := by decide +kernel
theorem dX9_reads_39 : decode cX9_reads 39 = .ok (.aload_n 0, 1) := by decide +kernel
theorem dX9_reads_40 : decode cX9_reads 40 = .ok (.invokevirtual 133, 3) := by decide +kernel
theorem dX9_reads_43 : decode cX9_reads 43 = .ok (.ifCond .eq 11, 3) := by decide +kernel
theorem dX9_reads_46 : decode cX9_reads 46 = .ok (.aload_n 0, 1) := by decide +kernel
theorem dX9_reads_47 : decode cX9_reads 47 = .ok (.invokevirtual 136, 3) := by decide +kernel
theorem dX9_reads_50 : decode cX9_reads 50 = .ok (.istore_n 1, 1) := by decide +kernel
theorem dX9_reads_51 : decode cX9_reads 51 = .ok (.goto (-16), 3) := by decide +kernel
theorem dX9_reads_54 : decode cX9_reads 54 = .ok (.iload_n 1, 1) := by decide +kernel
theorem dX9_reads_55 : decode cX9_reads 55 = .ok (.ifCond .eq 26, 3) := by decide +kernel
theorem dX9_reads_58 : decode cX9_reads 58 = .ok (.aload_n 0, 1) := by decide +kernel
theorem dX9_reads_59 : decode cX9_reads 59 = .ok (.getfield 92, 3) := by decide +kernel
theorem dX9_reads_62 : decode cX9_reads 62 = .ok (.aload_n 0, 1) := by decide +kernel
theorem dX9_reads_63 : decode cX9_reads 63 = .ok (.getfield 88, 3) := by decide +kernel
theorem dX9_reads_66 : decode cX9_reads 66 = .ok (.if_icmp .eq 11, 3) := by decide +kernel
theorem dX9_reads_69 : decode cX9_reads 69 = .ok (.aload_n 0, 1) := by decide +kernel
theorem dX9_reads_70 : decode cX9_reads 70 = .ok (.iconst 1, 1) := by decide +kernel
theorem dX9_reads_71 : decode cX9_reads 71 = .ok (.invokevirtual 105, 3) := by decide +kernel
theorem dX9_reads_74 : decode cX9_reads 74 = .ok (.ifCond .eq 7, 3) := by decide +kernel
theorem dX9_reads_77 : decode cX9_reads 77 = .ok (.iconst 1, 1) := by decide +kernel
theorem dX9_reads_78 : decode cX9_reads 78 = .ok (.goto 4, 3) := by decide +kernel
theorem dX9_reads_81 : decode cX9_reads 81 = .ok (.iconst 0, 1) := by decide +kernel
theorem dX9_reads_82 : decode cX9_reads 82 = .ok (.ireturn, 1) := by decide +kernel
theorem dX9_hill_0 : decode cX9_hill 0 = .ok (.aload_n 0, 1) := by decide +kernel
theorem dX9_hill_1 : decode cX9_hill 1 = .ok (.invokevirtual 139, 3) := by decide +kernel
theorem dX9_hill_4 : decode cX9_hill 4 = .ok (.istore_n 1, 1) := by decide +kernel
theorem dX9_hill_5 : decode cX9_hill 5 = .ok (.aload_n 0, 1) := by decide +kernel
theorem dX9_hill_6 : decode cX9_hill 6 = .ok (.iconst 0, 1) := by decide +kernel
theorem dX9_hill_7 : decode cX9_hill 7 = .ok (.putfield 88, 3) := by decide +kernel
theorem dX9_hill_10 : decode cX9_hill 10 = .ok (.iload_n 1, 1) := by decide +kernel
theorem dX9_hill_11 : decode cX9_hill 11 = .ok (.ifCond .ne 19, 3) := by decide +kernel
theorem dX9_hill_14 : decode cX9_hill 14 = .ok (.aload_n 0, 1) := by decide +kernel
theorem dX9_hill_15 : decode cX9_hill 15 = .ok (.aload_n 0, 1) := by decide +kernel
theorem dX9_hill_16 : decode cX9_hill 16 = .ok (.getfield 99, 3) := by decide +kernel
theorem dX9_hill_19 : decode cX9_hill 19 = .ok (.putfield 142, 3) := by decide +kernel
theorem dX9_hill_22 : decode cX9_hill 22 = .ok (.ldc 145, 2) := by decide +kernel
theorem dX9_hill_24 : decode cX9_hill 24 = .ok (.aload_n 0, 1) := by decide +kernel
theorem dX9_hill_25 : decode cX9_hill 25 = .ok (.getfield 92, 3) := by decide +kernel
theorem dX9_hill_28 : decode cX9_hill 28 = .ok (.isub, 1) := by decide +kernel
theorem dX9_hill_29 : decode cX9_hill 29 = .ok (.ireturn, 1) := by decide +kernel
theorem dX9_hill_30 : decode cX9_hill 30 = .ok (.aload_n 0, 1) := by decide +kernel
theorem dX9_hill_31 : decode cX9_hill 31 = .ok (.getfield 7, 3) := by decide +kernel
theorem dX9_hill_34 : decode cX9_hill 34 = .ok (.sipush 1061, 3) := by decide +kernel
theorem dX9_hill_37 : decode cX9_hill 37 = .ok (.iconst 1, 1) := by decide +kernel
theorem dX9_hill_38 : decode cX9_hill 38 = .ok (.aload_n 0, 1) := by decide +kernel
theorem dX9_hill_39 : decode cX9_hill 39 = .ok (.getfield 7, 3) := by decide +kernel
theorem dX9_hill_42 : decode cX9_hill 42 = .ok (.sipush 1054, 3) := by decide +kernel
theorem dX9_hill_45 : decode cX9_hill 45 = .ok (.iaload, 1) := by decide +kernel
theorem dX9_hill_46 : decode cX9_hill 46 = .ok (.ishl, 1) := by decide +kernel
theorem dX9_hill_47 : decode cX9_hill 47 = .ok (.iconst 1, 1) := by decide +kernel
theorem dX9_hill_48 : decode cX9_hill 48 = .ok (.isub, 1) := by decide +kernel
theorem dX9_hill_49 : decode cX9_hill 49 = .ok (.iastore, 1) := by decide +kernel
theorem dX9_hill_50 : decode cX9_hill 50 = .ok (.aload_n 0, 1) := by decide +kernel
theorem dX9_hill_51 : decode cX9_hill 51 = .ok (.sipush 1053, 3) := by decide +kernel
theorem dX9_hill_54 : decode cX9_hill 54 = .ok (.iconst 0, 1) := by decide +kernel
theorem dX9_hill_55 : decode cX9_hill 55 = .ok (.invokevirtual 146, 3) := by decide +kernel
theorem dX9_hill_58 : decode cX9_hill 58 = .ok (.aload_n 0, 1) := by decide +kernel
theorem dX9_hill_59 : decode cX9_hill 59 = .ok (.iconst 1, 1) := by decide +kernel
theorem dX9_hill_60 : decode cX9_hill 60 = .ok (.putfield 150, 3) := by decide +kernel
theorem dX9_hill_63 : decode cX9_hill 63 = .ok (.aload_n 0, 1) := by decide +kernel
theorem dX9_hill_64 : decode cX9_hill 64 = .ok (.iconst 0, 1) := by decide +kernel
theorem dX9_hill_65 : decode cX9_hill 65 = .ok (.putfield 154, 3) := by decide +kernel
theorem dX9_hill_68 : decode cX9_hill 68 = .ok (.aload_n 0, 1) := by decide +kernel
theorem dX9_hill_69 : decode cX9_hill 69 = .ok (.getfield 7, 3) := by decide +kernel
theorem dX9_hill_72 : decode cX9_hill 72 = .ok (.iconst 1, 1) := by decide +kernel
theorem dX9_hill_73 : decode cX9_hill 73 = .ok (.iaload, 1) := by decide +kernel
theorem dX9_hill_74 : decode cX9_hill 74 = .ok (.ireturn, 1) := by decide +kernel
theorem dX9_fault_0 : decode cX9_fault 0 = .ok (.aload_n 0, 1) := by decide +kernel
theorem dX9_fault_1 : decode cX9_fault 1 = .ok (.getfield 142, 3) := by decide +kernel
theorem dX9_fault_4 : decode cX9_fault 4 = .ok (.ireturn, 1) := by decide +kernel
theorem dX9_copyTown_0 : decode cX9_copyTown 0 = .ok (.iconst 0, 1) := by decide +kernel
theorem dX9_copyTown_1 : decode cX9_copyTown 1 = .ok (.istore_n 3, 1) := by decide +kernel
theorem dX9_copyTown_2 : decode cX9_copyTown 2 = .ok (.iload_n 3, 1) := by decide +kernel
theorem dX9_copyTown_3 : decode cX9_copyTown 3 = .ok (.bipush 39, 2) := by decide +kernel
theorem dX9_copyTown_5 : decode cX9_copyTown 5 = .ok (.if_icmp .ge 25, 3) := by decide +kernel
theorem dX9_copyTown_8 : decode cX9_copyTown 8 = .ok (.aload_n 0, 1) := by decide +kernel
theorem dX9_copyTown_9 : decode cX9_copyTown 9 = .ok (.getfield 7, 3) := by decide +kernel
theorem dX9_copyTown_12 : decode cX9_copyTown 12 = .ok (.iload_n 2, 1) := by decide +kernel
theorem dX9_copyTown_13 : decode cX9_copyTown 13 = .ok (.iload_n 3, 1) := by decide +kernel
theorem dX9_copyTown_14 : decode cX9_copyTown 14 = .ok (.iadd, 1) := by decide +kernel
theorem dX9_copyTown_15 : decode cX9_copyTown 15 = .ok (.aload_n 0, 1) := by decide +kernel
theorem dX9_copyTown_16 : decode cX9_copyTown 16 = .ok (.getfield 7, 3) := by decide +kernel
theorem dX9_copyTown_19 : decode cX9_copyTown 19 = .ok (.iload_n 1, 1) := by decide +kernel
theorem dX9_copyTown_20 : decode cX9_copyTown 20 = .ok (.iload_n 3, 1) := by decide +kernel
theorem dX9_copyTown_21 : decode cX9_copyTown 21 = .ok (.iadd, 1) := by decide +kernel
theorem dX9_copyTown_22 : decode cX9_copyTown 22 = .ok (.iaload, 1) := by decide +kernel
theorem dX9_copyTown_23 : decode cX9_copyTown 23 = .ok (.iastore, 1) := by decide +kernel
theorem dX9_copyTown_24 : decode cX9_copyTown 24 = .ok (.iinc 3 1, 3) := by decide +kernel
theorem dX9_copyTown_27 : decode cX9_copyTown 27 = .ok (.goto (-25), 3) := by decide +kernel
theorem dX9_copyTown_30 : decode cX9_copyTown 30 = .ok (.return_, 1) := by decide +kernel
theorem dX9_keepPast_0 : decode cX9_keepPast 0 = .ok (.iconst 0, 1) := by decide +kernel
theorem dX9_keepPast_1 : decode cX9_keepPast 1 = .ok (.istore_n 1, 1) := by decide +kernel
theorem dX9_keepPast_2 : decode cX9_keepPast 2 = .ok (.iload_n 1, 1) := by decide +kernel
theorem dX9_keepPast_3 : decode cX9_keepPast 3 = .ok (.sipush 897, 3) := by decide +kernel
theorem dX9_keepPast_6 : decode cX9_keepPast 6 = .ok (.if_icmp .ge 36, 3) := by decide +kernel
theorem dX9_keepPast_9 : decode cX9_keepPast 9 = .ok (.aload_n 0, 1) := by decide +kernel
theorem dX9_keepPast_10 : decode cX9_keepPast 10 = .ok (.getfield 154, 3) := by decide +kernel
theorem dX9_keepPast_13 : decode cX9_keepPast 13 = .ok (.bipush 24, 2) := by decide +kernel
theorem dX9_keepPast_15 : decode cX9_keepPast 15 = .ok (.if_icmp .ne 27, 3) := by decide +kernel
theorem dX9_keepPast_18 : decode cX9_keepPast 18 = .ok (.aload_n 0, 1) := by decide +kernel
theorem dX9_keepPast_19 : decode cX9_keepPast 19 = .ok (.getfield 7, 3) := by decide +kernel
theorem dX9_keepPast_22 : decode cX9_keepPast 22 = .ok (.bipush 39, 2) := by decide +kernel
theorem dX9_keepPast_24 : decode cX9_keepPast 24 = .ok (.iload_n 1, 1) := by decide +kernel
theorem dX9_keepPast_25 : decode cX9_keepPast 25 = .ok (.iadd, 1) := by decide +kernel
theorem dX9_keepPast_26 : decode cX9_keepPast 26 = .ok (.aload_n 0, 1) := by decide +kernel
theorem dX9_keepPast_27 : decode cX9_keepPast 27 = .ok (.getfield 7, 3) := by decide +kernel
theorem dX9_keepPast_30 : decode cX9_keepPast 30 = .ok (.bipush 78, 2) := by decide +kernel
theorem dX9_keepPast_32 : decode cX9_keepPast 32 = .ok (.iload_n 1, 1) := by decide +kernel
theorem dX9_keepPast_33 : decode cX9_keepPast 33 = .ok (.iadd, 1) := by decide +kernel
theorem dX9_keepPast_34 : decode cX9_keepPast 34 = .ok (.iaload, 1) := by decide +kernel
theorem dX9_keepPast_35 : decode cX9_keepPast 35 = .ok (.iastore, 1) := by decide +kernel
theorem dX9_keepPast_36 : decode cX9_keepPast 36 = .ok (.iinc 1 1, 3) := by decide +kernel
theorem dX9_keepPast_39 : decode cX9_keepPast 39 = .ok (.goto (-37), 3) := by decide +kernel
theorem dX9_keepPast_42 : decode cX9_keepPast 42 = .ok (.aload_n 0, 1) := by decide +kernel
theorem dX9_keepPast_43 : decode cX9_keepPast 43 = .ok (.dup, 1) := by decide +kernel
theorem dX9_keepPast_44 : decode cX9_keepPast 44 = .ok (.getfield 154, 3) := by decide +kernel
theorem dX9_keepPast_47 : decode cX9_keepPast 47 = .ok (.aload_n 0, 1) := by decide +kernel
theorem dX9_keepPast_48 : decode cX9_keepPast 48 = .ok (.getfield 154, 3) := by decide +kernel
theorem dX9_keepPast_51 : decode cX9_keepPast 51 = .ok (.bipush 24, 2) := by decide +kernel
theorem dX9_keepPast_53 : decode cX9_keepPast 53 = .ok (.if_icmp .ne 7, 3) := by decide +kernel
theorem dX9_keepPast_56 : decode cX9_keepPast 56 = .ok (.iconst 1, 1) := by decide +kernel
theorem dX9_keepPast_57 : decode cX9_keepPast 57 = .ok (.goto 4, 3) := by decide +kernel
theorem dX9_keepPast_60 : decode cX9_keepPast 60 = .ok (.iconst 0, 1) := by decide +kernel
theorem dX9_keepPast_61 : decode cX9_keepPast 61 = .ok (.isub, 1) := by decide +kernel
theorem dX9_keepPast_62 : decode cX9_keepPast 62 = .ok (.putfield 154, 3) := by decide +kernel
theorem dX9_keepPast_65 : decode cX9_keepPast 65 = .ok (.aload_n 0, 1) := by decide +kernel
theorem dX9_keepPast_66 : decode cX9_keepPast 66 = .ok (.iconst 0, 1) := by decide +kernel
theorem dX9_keepPast_67 : decode cX9_keepPast 67 = .ok (.bipush 39, 2) := by decide +kernel
theorem dX9_keepPast_69 : decode cX9_keepPast 69 = .ok (.bipush 39, 2) := by decide +kernel
theorem dX9_keepPast_71 : decode cX9_keepPast 71 = .ok (.aload_n 0, 1) := by decide +kernel
theorem dX9_keepPast_72 : decode cX9_keepPast 72 = .ok (.getfield 154, 3) := by decide +kernel
theorem dX9_keepPast_75 : decode cX9_keepPast 75 = .ok (.imul, 1) := by decide +kernel
theorem dX9_keepPast_76 : decode cX9_keepPast 76 = .ok (.iadd, 1) := by decide +kernel
theorem dX9_keepPast_77 : decode cX9_keepPast 77 = .ok (.invokevirtual 146, 3) := by decide +kernel
theorem dX9_keepPast_80 : decode cX9_keepPast 80 = .ok (.aload_n 0, 1) := by decide +kernel
theorem dX9_keepPast_81 : decode cX9_keepPast 81 = .ok (.dup, 1) := by decide +kernel
theorem dX9_keepPast_82 : decode cX9_keepPast 82 = .ok (.getfield 154, 3) := by decide +kernel
theorem dX9_keepPast_85 : decode cX9_keepPast 85 = .ok (.iconst 1, 1) := by decide +kernel
theorem dX9_keepPast_86 : decode cX9_keepPast 86 = .ok (.iadd, 1) := by decide +kernel
theorem dX9_keepPast_87 : decode cX9_keepPast 87 = .ok (.putfield 154, 3) := by decide +kernel
theorem dX9_keepPast_90 : decode cX9_keepPast 90 = .ok (.return_, 1) := by decide +kernel
theorem dX9_undo_0 : decode cX9_undo 0 = .ok (.aload_n 0, 1) := by decide +kernel
theorem dX9_undo_1 : decode cX9_undo 1 = .ok (.getfield 154, 3) := by decide +kernel
theorem dX9_undo_4 : decode cX9_undo 4 = .ok (.ifCond .ne 6, 3) := by decide +kernel
theorem dX9_undo_7 : decode cX9_undo 7 = .ok (.ldc 157, 2) := by decide +kernel
theorem dX9_undo_9 : decode cX9_undo 9 = .ok (.ireturn, 1) := by decide +kernel
theorem dX9_undo_10 : decode cX9_undo 10 = .ok (.aload_n 0, 1) := by decide +kernel
theorem dX9_undo_11 : decode cX9_undo 11 = .ok (.dup, 1) := by decide +kernel
theorem dX9_undo_12 : decode cX9_undo 12 = .ok (.getfield 154, 3) := by decide +kernel
theorem dX9_undo_15 : decode cX9_undo 15 = .ok (.iconst 1, 1) := by decide +kernel
theorem dX9_undo_16 : decode cX9_undo 16 = .ok (.isub, 1) := by decide +kernel
theorem dX9_undo_17 : decode cX9_undo 17 = .ok (.putfield 154, 3) := by decide +kernel
theorem dX9_undo_20 : decode cX9_undo 20 = .ok (.aload_n 0, 1) := by decide +kernel
theorem dX9_undo_21 : decode cX9_undo 21 = .ok (.bipush 39, 2) := by decide +kernel
theorem dX9_undo_23 : decode cX9_undo 23 = .ok (.bipush 39, 2) := by decide +kernel
theorem dX9_undo_25 : decode cX9_undo 25 = .ok (.aload_n 0, 1) := by decide +kernel
theorem dX9_undo_26 : decode cX9_undo 26 = .ok (.getfield 154, 3) := by decide +kernel
theorem dX9_undo_29 : decode cX9_undo 29 = .ok (.imul, 1) := by decide +kernel
theorem dX9_undo_30 : decode cX9_undo 30 = .ok (.iadd, 1) := by decide +kernel
theorem dX9_undo_31 : decode cX9_undo 31 = .ok (.iconst 0, 1) := by decide +kernel
theorem dX9_undo_32 : decode cX9_undo 32 = .ok (.invokevirtual 146, 3) := by decide +kernel
theorem dX9_undo_35 : decode cX9_undo 35 = .ok (.aload_n 0, 1) := by decide +kernel
theorem dX9_undo_36 : decode cX9_undo 36 = .ok (.getfield 154, 3) := by decide +kernel
theorem dX9_undo_39 : decode cX9_undo 39 = .ok (.ireturn, 1) := by decide +kernel
theorem dX9_isHouse_0 : decode cX9_isHouse 0 = .ok (.iload_n 1, 1) := by decide +kernel
theorem dX9_isHouse_1 : decode cX9_isHouse 1 = .ok (.i2l, 1) := by decide +kernel
theorem dX9_isHouse_2 : decode cX9_isHouse 2 = .ok (.lconst 0, 1) := by decide +kernel
theorem dX9_isHouse_3 : decode cX9_isHouse 3 = .ok (.aload_n 0, 1) := by decide +kernel
theorem dX9_isHouse_4 : decode cX9_isHouse 4 = .ok (.getfield 7, 3) := by decide +kernel
theorem dX9_isHouse_7 : decode cX9_isHouse 7 = .ok (.iconst 1, 1) := by decide +kernel
theorem dX9_isHouse_8 : decode cX9_isHouse 8 = .ok (.iaload, 1) := by decide +kernel
theorem dX9_isHouse_9 : decode cX9_isHouse 9 = .ok (.iconst 1, 1) := by decide +kernel
theorem dX9_isHouse_10 : decode cX9_isHouse 10 = .ok (.isub, 1) := by decide +kernel
theorem dX9_isHouse_11 : decode cX9_isHouse 11 = .ok (.i2l, 1) := by decide +kernel
theorem dX9_isHouse_12 : decode cX9_isHouse 12 = .ok (.invokestatic 60, 3) := by decide +kernel
theorem dX9_isHouse_15 : decode cX9_isHouse 15 = .ok (.ireturn, 1) := by decide +kernel
theorem dX9_houseAt_0 : decode cX9_houseAt 0 = .ok (.iconst 0, 1) := by decide +kernel
theorem dX9_houseAt_1 : decode cX9_houseAt 1 = .ok (.istore 4, 2) := by decide +kernel
theorem dX9_houseAt_3 : decode cX9_houseAt 3 = .ok (.iload 4, 2) := by decide +kernel
theorem dX9_houseAt_5 : decode cX9_houseAt 5 = .ok (.aload_n 0, 1) := by decide +kernel
theorem dX9_houseAt_6 : decode cX9_houseAt 6 = .ok (.getfield 7, 3) := by decide +kernel
theorem dX9_houseAt_9 : decode cX9_houseAt 9 = .ok (.iload_n 1, 1) := by decide +kernel
theorem dX9_houseAt_10 : decode cX9_houseAt 10 = .ok (.iconst 1, 1) := by decide +kernel
theorem dX9_houseAt_11 : decode cX9_houseAt 11 = .ok (.iadd, 1) := by decide +kernel
theorem dX9_houseAt_12 : decode cX9_houseAt 12 = .ok (.iaload, 1) := by decide +kernel
theorem dX9_houseAt_13 : decode cX9_houseAt 13 = .ok (.if_icmp .ge 44, 3) := by decide +kernel
theorem dX9_houseAt_16 : decode cX9_houseAt 16 = .ok (.aload_n 0, 1) := by decide +kernel
theorem dX9_houseAt_17 : decode cX9_houseAt 17 = .ok (.getfield 7, 3) := by decide +kernel
theorem dX9_houseAt_20 : decode cX9_houseAt 20 = .ok (.iload_n 1, 1) := by decide +kernel
theorem dX9_houseAt_21 : decode cX9_houseAt 21 = .ok (.bipush 15, 2) := by decide +kernel
theorem dX9_houseAt_23 : decode cX9_houseAt 23 = .ok (.iadd, 1) := by decide +kernel
theorem dX9_houseAt_24 : decode cX9_houseAt 24 = .ok (.iload 4, 2) := by decide +kernel
theorem dX9_houseAt_26 : decode cX9_houseAt 26 = .ok (.iadd, 1) := by decide +kernel
theorem dX9_houseAt_27 : decode cX9_houseAt 27 = .ok (.iaload, 1) := by decide +kernel
theorem dX9_houseAt_28 : decode cX9_houseAt 28 = .ok (.iload_n 2, 1) := by decide +kernel
theorem dX9_houseAt_29 : decode cX9_houseAt 29 = .ok (.if_icmp .ne 22, 3) := by decide +kernel
theorem dX9_houseAt_32 : decode cX9_houseAt 32 = .ok (.aload_n 0, 1) := by decide +kernel
theorem dX9_houseAt_33 : decode cX9_houseAt 33 = .ok (.getfield 7, 3) := by decide +kernel
theorem dX9_houseAt_36 : decode cX9_houseAt 36 = .ok (.iload_n 1, 1) := by decide +kernel
theorem dX9_houseAt_37 : decode cX9_houseAt 37 = .ok (.bipush 21, 2) := by decide +kernel
theorem dX9_houseAt_39 : decode cX9_houseAt 39 = .ok (.iadd, 1) := by decide +kernel
theorem dX9_houseAt_40 : decode cX9_houseAt 40 = .ok (.iload 4, 2) := by decide +kernel
theorem dX9_houseAt_42 : decode cX9_houseAt 42 = .ok (.iadd, 1) := by decide +kernel
theorem dX9_houseAt_43 : decode cX9_houseAt 43 = .ok (.iaload, 1) := by decide +kernel
theorem dX9_houseAt_44 : decode cX9_houseAt 44 = .ok (.iload_n 3, 1) := by decide +kernel
theorem dX9_houseAt_45 : decode cX9_houseAt 45 = .ok (.if_icmp .ne 6, 3) := by decide +kernel
theorem dX9_houseAt_48 : decode cX9_houseAt 48 = .ok (.iload 4, 2) := by decide +kernel
theorem dX9_houseAt_50 : decode cX9_houseAt 50 = .ok (.ireturn, 1) := by decide +kernel
theorem dX9_houseAt_51 : decode cX9_houseAt 51 = .ok (.iinc 4 1, 3) := by decide +kernel
theorem dX9_houseAt_54 : decode cX9_houseAt 54 = .ok (.goto (-51), 3) := by decide +kernel
theorem dX9_houseAt_57 : decode cX9_houseAt 57 = .ok (.ldc 128, 2) := by decide +kernel
theorem dX9_houseAt_59 : decode cX9_houseAt 59 = .ok (.ireturn, 1) := by decide +kernel
theorem dX9_kept_0 : decode cX9_kept 0 = .ok (.iload_n 0, 1) := by decide +kernel
theorem dX9_kept_1 : decode cX9_kept 1 = .ok (.ifCond .ge 7, 3) := by decide +kernel
theorem dX9_kept_4 : decode cX9_kept 4 = .ok (.iconst 0, 1) := by decide +kernel
theorem dX9_kept_5 : decode cX9_kept 5 = .ok (.goto 15, 3) := by decide +kernel
theorem dX9_kept_8 : decode cX9_kept 8 = .ok (.iload_n 0, 1) := by decide +kernel
theorem dX9_kept_9 : decode cX9_kept 9 = .ok (.bipush 6, 2) := by decide +kernel
theorem dX9_kept_11 : decode cX9_kept 11 = .ok (.if_icmp .le 8, 3) := by decide +kernel
theorem dX9_kept_14 : decode cX9_kept 14 = .ok (.bipush 6, 2) := by decide +kernel
theorem dX9_kept_16 : decode cX9_kept 16 = .ok (.goto 4, 3) := by decide +kernel
theorem dX9_kept_19 : decode cX9_kept 19 = .ok (.iload_n 0, 1) := by decide +kernel
theorem dX9_kept_20 : decode cX9_kept 20 = .ok (.ireturn, 1) := by decide +kernel
theorem dX9_turns_0 : decode cX9_turns 0 = .ok (.aload_n 0, 1) := by decide +kernel
theorem dX9_turns_1 : decode cX9_turns 1 = .ok (.getfield 7, 3) := by decide +kernel
theorem dX9_turns_4 : decode cX9_turns 4 = .ok (.iload_n 1, 1) := by decide +kernel
theorem dX9_turns_5 : decode cX9_turns 5 = .ok (.bipush 9, 2) := by decide +kernel
theorem dX9_turns_7 : decode cX9_turns 7 = .ok (.iadd, 1) := by decide +kernel
theorem dX9_turns_8 : decode cX9_turns 8 = .ok (.iload_n 2, 1) := by decide +kernel
theorem dX9_turns_9 : decode cX9_turns 9 = .ok (.iadd, 1) := by decide +kernel
theorem dX9_turns_10 : decode cX9_turns 10 = .ok (.iaload, 1) := by decide +kernel
theorem dX9_turns_11 : decode cX9_turns 11 = .ok (.istore 4, 2) := by decide +kernel
theorem dX9_turns_13 : decode cX9_turns 13 = .ok (.iload 4, 2) := by decide +kernel
theorem dX9_turns_15 : decode cX9_turns 15 = .ok (.iconst 4, 1) := by decide +kernel
theorem dX9_turns_16 : decode cX9_turns 16 = .ok (.if_icmp .eq 9, 3) := by decide +kernel
theorem dX9_turns_19 : decode cX9_turns 19 = .ok (.iload 4, 2) := by decide +kernel
theorem dX9_turns_21 : decode cX9_turns 21 = .ok (.iconst 5, 1) := by decide +kernel
theorem dX9_turns_22 : decode cX9_turns 22 = .ok (.if_icmp .ne 15, 3) := by decide +kernel
theorem dX9_turns_25 : decode cX9_turns 25 = .ok (.iload 4, 2) := by decide +kernel
theorem dX9_turns_27 : decode cX9_turns 27 = .ok (.iconst 4, 1) := by decide +kernel
theorem dX9_turns_28 : decode cX9_turns 28 = .ok (.if_icmp .ne 7, 3) := by decide +kernel
theorem dX9_turns_31 : decode cX9_turns 31 = .ok (.iconst (-1), 1) := by decide +kernel
theorem dX9_turns_32 : decode cX9_turns 32 = .ok (.goto 4, 3) := by decide +kernel
theorem dX9_turns_35 : decode cX9_turns 35 = .ok (.iconst 1, 1) := by decide +kernel
theorem dX9_turns_36 : decode cX9_turns 36 = .ok (.ireturn, 1) := by decide +kernel
theorem dX9_turns_37 : decode cX9_turns 37 = .ok (.iload 4, 2) := by decide +kernel
theorem dX9_turns_39 : decode cX9_turns 39 = .ok (.iconst 2, 1) := by decide +kernel
theorem dX9_turns_40 : decode cX9_turns 40 = .ok (.if_icmp .ne 23, 3) := by decide +kernel
theorem dX9_turns_43 : decode cX9_turns 43 = .ok (.aload_n 0, 1) := by decide +kernel
theorem dX9_turns_44 : decode cX9_turns 44 = .ok (.getfield 7, 3) := by decide +kernel
theorem dX9_turns_47 : decode cX9_turns 47 = .ok (.iload_n 1, 1) := by decide +kernel
theorem dX9_turns_48 : decode cX9_turns 48 = .ok (.bipush 8, 2) := by decide +kernel
theorem dX9_turns_50 : decode cX9_turns 50 = .ok (.iadd, 1) := by decide +kernel
theorem dX9_turns_51 : decode cX9_turns 51 = .ok (.iaload, 1) := by decide +kernel
theorem dX9_turns_52 : decode cX9_turns 52 = .ok (.iload_n 2, 1) := by decide +kernel
theorem dX9_turns_53 : decode cX9_turns 53 = .ok (.invokestatic 158, 3) := by decide +kernel
theorem dX9_turns_56 : decode cX9_turns 56 = .ok (.ifCond .eq 7, 3) := by decide +kernel
theorem dX9_turns_59 : decode cX9_turns 59 = .ok (.iconst 1, 1) := by decide +kernel
theorem dX9_turns_60 : decode cX9_turns 60 = .ok (.goto 4, 3) := by decide +kernel
theorem dX9_turns_63 : decode cX9_turns 63 = .ok (.iconst 0, 1) := by decide +kernel
theorem dX9_turns_64 : decode cX9_turns 64 = .ok (.istore 5, 2) := by decide +kernel
theorem dX9_turns_66 : decode cX9_turns 66 = .ok (.iload 5, 2) := by decide +kernel
theorem dX9_turns_68 : decode cX9_turns 68 = .ok (.ifCond .eq 7, 3) := by decide +kernel
theorem dX9_turns_71 : decode cX9_turns 71 = .ok (.iconst 0, 1) := by decide +kernel
theorem dX9_turns_72 : decode cX9_turns 72 = .ok (.goto 14, 3) := by decide +kernel
theorem dX9_turns_75 : decode cX9_turns 75 = .ok (.iload_n 3, 1) := by decide +kernel
theorem dX9_turns_76 : decode cX9_turns 76 = .ok (.iconst 2, 1) := by decide +kernel
theorem dX9_turns_77 : decode cX9_turns 77 = .ok (.irem, 1) := by decide +kernel
theorem dX9_turns_78 : decode cX9_turns 78 = .ok (.ifCond .ne 7, 3) := by decide +kernel
theorem dX9_turns_81 : decode cX9_turns 81 = .ok (.iconst 1, 1) := by decide +kernel
theorem dX9_turns_82 : decode cX9_turns 82 = .ok (.goto 4, 3) := by decide +kernel
theorem dX9_turns_85 : decode cX9_turns 85 = .ok (.iconst (-1), 1) := by decide +kernel
theorem dX9_turns_86 : decode cX9_turns 86 = .ok (.ireturn, 1) := by decide +kernel
theorem dX9_slows_0 : decode cX9_slows 0 = .ok (.aload_n 0, 1) := by decide +kernel
theorem dX9_slows_1 : decode cX9_slows 1 = .ok (.getfield 7, 3) := by decide +kernel
theorem dX9_slows_4 : decode cX9_slows 4 = .ok (.iload_n 1, 1) := by decide +kernel
theorem dX9_slows_5 : decode cX9_slows 5 = .ok (.bipush 9, 2) := by decide +kernel
theorem dX9_slows_7 : decode cX9_slows 7 = .ok (.iadd, 1) := by decide +kernel
theorem dX9_slows_8 : decode cX9_slows 8 = .ok (.iload_n 2, 1) := by decide +kernel
theorem dX9_slows_9 : decode cX9_slows 9 = .ok (.iadd, 1) := by decide +kernel
theorem dX9_slows_10 : decode cX9_slows 10 = .ok (.iaload, 1) := by decide +kernel
theorem dX9_slows_11 : decode cX9_slows 11 = .ok (.istore_n 3, 1) := by decide +kernel
theorem dX9_slows_12 : decode cX9_slows 12 = .ok (.iload_n 3, 1) := by decide +kernel
theorem dX9_slows_13 : decode cX9_slows 13 = .ok (.iconst 1, 1) := by decide +kernel
theorem dX9_slows_14 : decode cX9_slows 14 = .ok (.if_icmp .eq 24, 3) := by decide +kernel
theorem dX9_slows_17 : decode cX9_slows 17 = .ok (.iload_n 3, 1) := by decide +kernel
theorem dX9_slows_18 : decode cX9_slows 18 = .ok (.iconst 2, 1) := by decide +kernel
theorem dX9_slows_19 : decode cX9_slows 19 = .ok (.if_icmp .ne 23, 3) := by decide +kernel
theorem dX9_slows_22 : decode cX9_slows 22 = .ok (.aload_n 0, 1) := by decide +kernel
theorem dX9_slows_23 : decode cX9_slows 23 = .ok (.getfield 7, 3) := by decide +kernel
theorem dX9_slows_26 : decode cX9_slows 26 = .ok (.iload_n 1, 1) := by decide +kernel
theorem dX9_slows_27 : decode cX9_slows 27 = .ok (.bipush 8, 2) := by decide +kernel
theorem dX9_slows_29 : decode cX9_slows 29 = .ok (.iadd, 1) := by decide +kernel
theorem dX9_slows_30 : decode cX9_slows 30 = .ok (.iaload, 1) := by decide +kernel
theorem dX9_slows_31 : decode cX9_slows 31 = .ok (.iload_n 2, 1) := by decide +kernel
theorem dX9_slows_32 : decode cX9_slows 32 = .ok (.invokestatic 158, 3) := by decide +kernel
theorem dX9_slows_35 : decode cX9_slows 35 = .ok (.ifCond .ne 7, 3) := by decide +kernel
theorem dX9_slows_38 : decode cX9_slows 38 = .ok (.iconst 2, 1) := by decide +kernel
theorem dX9_slows_39 : decode cX9_slows 39 = .ok (.goto 4, 3) := by decide +kernel
theorem dX9_slows_42 : decode cX9_slows 42 = .ok (.iconst 1, 1) := by decide +kernel
theorem dX9_slows_43 : decode cX9_slows 43 = .ok (.ireturn, 1) := by decide +kernel
theorem dX9_holdsIt_0 : decode cX9_holdsIt 0 = .ok (.aload_n 0, 1) := by decide +kernel
theorem dX9_holdsIt_1 : decode cX9_holdsIt 1 = .ok (.getfield 7, 3) := by decide +kernel
theorem dX9_holdsIt_4 : decode cX9_holdsIt 4 = .ok (.iload_n 1, 1) := by decide +kernel
theorem dX9_holdsIt_5 : decode cX9_holdsIt 5 = .ok (.bipush 9, 2) := by decide +kernel
theorem dX9_holdsIt_7 : decode cX9_holdsIt 7 = .ok (.iadd, 1) := by decide +kernel
theorem dX9_holdsIt_8 : decode cX9_holdsIt 8 = .ok (.iload_n 2, 1) := by decide +kernel
theorem dX9_holdsIt_9 : decode cX9_holdsIt 9 = .ok (.iadd, 1) := by decide +kernel
theorem dX9_holdsIt_10 : decode cX9_holdsIt 10 = .ok (.iaload, 1) := by decide +kernel
theorem dX9_holdsIt_11 : decode cX9_holdsIt 11 = .ok (.istore_n 3, 1) := by decide +kernel
theorem dX9_holdsIt_12 : decode cX9_holdsIt 12 = .ok (.iload_n 3, 1) := by decide +kernel
theorem dX9_holdsIt_13 : decode cX9_holdsIt 13 = .ok (.iconst 3, 1) := by decide +kernel
theorem dX9_holdsIt_14 : decode cX9_holdsIt 14 = .ok (.if_icmp .eq 24, 3) := by decide +kernel
theorem dX9_holdsIt_17 : decode cX9_holdsIt 17 = .ok (.iload_n 3, 1) := by decide +kernel
theorem dX9_holdsIt_18 : decode cX9_holdsIt 18 = .ok (.iconst 1, 1) := by decide +kernel
theorem dX9_holdsIt_19 : decode cX9_holdsIt 19 = .ok (.if_icmp .ne 23, 3) := by decide +kernel
theorem dX9_holdsIt_22 : decode cX9_holdsIt 22 = .ok (.aload_n 0, 1) := by decide +kernel
theorem dX9_holdsIt_23 : decode cX9_holdsIt 23 = .ok (.getfield 7, 3) := by decide +kernel
theorem dX9_holdsIt_26 : decode cX9_holdsIt 26 = .ok (.iload_n 1, 1) := by decide +kernel
theorem dX9_holdsIt_27 : decode cX9_holdsIt 27 = .ok (.bipush 8, 2) := by decide +kernel
theorem dX9_holdsIt_29 : decode cX9_holdsIt 29 = .ok (.iadd, 1) := by decide +kernel
theorem dX9_holdsIt_30 : decode cX9_holdsIt 30 = .ok (.iaload, 1) := by decide +kernel
theorem dX9_holdsIt_31 : decode cX9_holdsIt 31 = .ok (.iload_n 2, 1) := by decide +kernel
theorem dX9_holdsIt_32 : decode cX9_holdsIt 32 = .ok (.invokestatic 158, 3) := by decide +kernel
theorem dX9_holdsIt_35 : decode cX9_holdsIt 35 = .ok (.ifCond .eq 7, 3) := by decide +kernel
theorem dX9_holdsIt_38 : decode cX9_holdsIt 38 = .ok (.iconst 1, 1) := by decide +kernel
theorem dX9_holdsIt_39 : decode cX9_holdsIt 39 = .ok (.goto 4, 3) := by decide +kernel
theorem dX9_holdsIt_42 : decode cX9_holdsIt 42 = .ok (.iconst 0, 1) := by decide +kernel
theorem dX9_holdsIt_43 : decode cX9_holdsIt 43 = .ok (.ireturn, 1) := by decide +kernel
theorem dX9_goes_0 : decode cX9_goes 0 = .ok (.iconst 0, 1) := by decide +kernel
theorem dX9_goes_1 : decode cX9_goes 1 = .ok (.istore_n 3, 1) := by decide +kernel
theorem dX9_goes_2 : decode cX9_goes 2 = .ok (.iload_n 3, 1) := by decide +kernel
theorem dX9_goes_3 : decode cX9_goes 3 = .ok (.bipush 10, 2) := by decide +kernel
theorem dX9_goes_5 : decode cX9_goes 5 = .ok (.if_icmp .ge 16, 3) := by decide +kernel
theorem dX9_goes_8 : decode cX9_goes 8 = .ok (.aload_n 0, 1) := by decide +kernel
theorem dX9_goes_9 : decode cX9_goes 9 = .ok (.getfield 41, 3) := by decide +kernel
theorem dX9_goes_12 : decode cX9_goes 12 = .ok (.iload_n 3, 1) := by decide +kernel
theorem dX9_goes_13 : decode cX9_goes 13 = .ok (.iconst (-1), 1) := by decide +kernel
theorem dX9_goes_14 : decode cX9_goes 14 = .ok (.iastore, 1) := by decide +kernel
theorem dX9_goes_15 : decode cX9_goes 15 = .ok (.iinc 3 1, 3) := by decide +kernel
theorem dX9_goes_18 : decode cX9_goes 18 = .ok (.goto (-16), 3) := by decide +kernel
theorem dX9_goes_21 : decode cX9_goes 21 = .ok (.iload_n 2, 1) := by decide +kernel
theorem dX9_goes_22 : decode cX9_goes 22 = .ok (.istore_n 3, 1) := by decide +kernel
theorem dX9_goes_23 : decode cX9_goes 23 = .ok (.aload_n 0, 1) := by decide +kernel
theorem dX9_goes_24 : decode cX9_goes 24 = .ok (.aload_n 0, 1) := by decide +kernel
theorem dX9_goes_25 : decode cX9_goes 25 = .ok (.getfield 7, 3) := by decide +kernel
theorem dX9_goes_28 : decode cX9_goes 28 = .ok (.iload_n 1, 1) := by decide +kernel
theorem dX9_goes_29 : decode cX9_goes 29 = .ok (.iconst 4, 1) := by decide +kernel
theorem dX9_goes_30 : decode cX9_goes 30 = .ok (.iadd, 1) := by decide +kernel
theorem dX9_goes_31 : decode cX9_goes 31 = .ok (.iaload, 1) := by decide +kernel
theorem dX9_goes_32 : decode cX9_goes 32 = .ok (.putfield 161, 3) := by decide +kernel
theorem dX9_goes_35 : decode cX9_goes 35 = .ok (.aload_n 0, 1) := by decide +kernel
theorem dX9_goes_36 : decode cX9_goes 36 = .ok (.getfield 41, 3) := by decide +kernel
theorem dX9_goes_39 : decode cX9_goes 39 = .ok (.iconst 0, 1) := by decide +kernel
theorem dX9_goes_40 : decode cX9_goes 40 = .ok (.iload_n 2, 1) := by decide +kernel
theorem dX9_goes_41 : decode cX9_goes 41 = .ok (.iastore, 1) := by decide +kernel
theorem dX9_goes_42 : decode cX9_goes 42 = .ok (.iconst 1, 1) := by decide +kernel
theorem dX9_goes_43 : decode cX9_goes 43 = .ok (.istore 4, 2) := by decide +kernel
theorem dX9_goes_45 : decode cX9_goes 45 = .ok (.iload 4, 2) := by decide +kernel
theorem dX9_goes_47 : decode cX9_goes 47 = .ok (.aload_n 0, 1) := by decide +kernel
theorem dX9_goes_48 : decode cX9_goes 48 = .ok (.getfield 7, 3) := by decide +kernel
theorem dX9_goes_51 : decode cX9_goes 51 = .ok (.iload_n 1, 1) := by decide +kernel
theorem dX9_goes_52 : decode cX9_goes 52 = .ok (.iconst 0, 1) := by decide +kernel
theorem dX9_goes_53 : decode cX9_goes 53 = .ok (.iadd, 1) := by decide +kernel
theorem dX9_goes_54 : decode cX9_goes 54 = .ok (.iaload, 1) := by decide +kernel
theorem dX9_goes_55 : decode cX9_goes 55 = .ok (.if_icmp .gt 137, 3) := by decide +kernel
theorem dX9_goes_58 : decode cX9_goes 58 = .ok (.iload 4, 2) := by decide +kernel
theorem dX9_goes_60 : decode cX9_goes 60 = .ok (.aload_n 0, 1) := by decide +kernel
theorem dX9_goes_61 : decode cX9_goes 61 = .ok (.getfield 7, 3) := by decide +kernel
theorem dX9_goes_64 : decode cX9_goes 64 = .ok (.iload_n 1, 1) := by decide +kernel
theorem dX9_goes_65 : decode cX9_goes 65 = .ok (.bipush 6, 2) := by decide +kernel
theorem dX9_goes_67 : decode cX9_goes 67 = .ok (.iadd, 1) := by decide +kernel
theorem dX9_goes_68 : decode cX9_goes 68 = .ok (.iaload, 1) := by decide +kernel
theorem dX9_goes_69 : decode cX9_goes 69 = .ok (.irem, 1) := by decide +kernel
theorem dX9_goes_70 : decode cX9_goes 70 = .ok (.ifCond .ne 21, 3) := by decide +kernel
theorem dX9_goes_73 : decode cX9_goes 73 = .ok (.iload_n 3, 1) := by decide +kernel
theorem dX9_goes_74 : decode cX9_goes 74 = .ok (.aload_n 0, 1) := by decide +kernel
theorem dX9_goes_75 : decode cX9_goes 75 = .ok (.getfield 7, 3) := by decide +kernel
theorem dX9_goes_78 : decode cX9_goes 78 = .ok (.iload_n 1, 1) := by decide +kernel
theorem dX9_goes_79 : decode cX9_goes 79 = .ok (.iconst 5, 1) := by decide +kernel
theorem dX9_goes_80 : decode cX9_goes 80 = .ok (.iadd, 1) := by decide +kernel
theorem dX9_goes_81 : decode cX9_goes 81 = .ok (.iaload, 1) := by decide +kernel
theorem dX9_goes_82 : decode cX9_goes 82 = .ok (.iadd, 1) := by decide +kernel
theorem dX9_goes_83 : decode cX9_goes 83 = .ok (.iconst 1, 1) := by decide +kernel
theorem dX9_goes_84 : decode cX9_goes 84 = .ok (.isub, 1) := by decide +kernel
theorem dX9_goes_85 : decode cX9_goes 85 = .ok (.invokestatic 164, 3) := by decide +kernel
theorem dX9_goes_88 : decode cX9_goes 88 = .ok (.goto 4, 3) := by decide +kernel
theorem dX9_goes_91 : decode cX9_goes 91 = .ok (.iload_n 3, 1) := by decide +kernel
theorem dX9_goes_92 : decode cX9_goes 92 = .ok (.istore_n 3, 1) := by decide +kernel
theorem dX9_goes_93 : decode cX9_goes 93 = .ok (.aload_n 0, 1) := by decide +kernel
theorem dX9_goes_94 : decode cX9_goes 94 = .ok (.getfield 41, 3) := by decide +kernel
theorem dX9_goes_97 : decode cX9_goes 97 = .ok (.iload 4, 2) := by decide +kernel
theorem dX9_goes_99 : decode cX9_goes 99 = .ok (.iload_n 3, 1) := by decide +kernel
theorem dX9_goes_100 : decode cX9_goes 100 = .ok (.iastore, 1) := by decide +kernel
theorem dX9_goes_101 : decode cX9_goes 101 = .ok (.aload_n 0, 1) := by decide +kernel
theorem dX9_goes_102 : decode cX9_goes 102 = .ok (.iload_n 1, 1) := by decide +kernel
theorem dX9_goes_103 : decode cX9_goes 103 = .ok (.iload 4, 2) := by decide +kernel
theorem dX9_goes_105 : decode cX9_goes 105 = .ok (.iload_n 3, 1) := by decide +kernel
theorem dX9_goes_106 : decode cX9_goes 106 = .ok (.invokevirtual 124, 3) := by decide +kernel
theorem dX9_goes_109 : decode cX9_goes 109 = .ok (.istore 5, 2) := by decide +kernel
theorem dX9_goes_111 : decode cX9_goes 111 = .ok (.iload 5, 2) := by decide +kernel
theorem dX9_goes_113 : decode cX9_goes 113 = .ok (.ldc 128, 2) := by decide +kernel
theorem dX9_goes_115 : decode cX9_goes 115 = .ok (.if_icmp .eq 71, 3) := by decide +kernel
theorem dX9_goes_118 : decode cX9_goes 118 = .ok (.aload_n 0, 1) := by decide +kernel
theorem dX9_goes_119 : decode cX9_goes 119 = .ok (.iload_n 1, 1) := by decide +kernel
theorem dX9_goes_120 : decode cX9_goes 120 = .ok (.iload 5, 2) := by decide +kernel
theorem dX9_goes_122 : decode cX9_goes 122 = .ok (.invokevirtual 167, 3) := by decide +kernel
theorem dX9_goes_125 : decode cX9_goes 125 = .ok (.ifCond .eq 6, 3) := by decide +kernel
theorem dX9_goes_128 : decode cX9_goes 128 = .ok (.iload 5, 2) := by decide +kernel
theorem dX9_goes_130 : decode cX9_goes 130 = .ok (.ireturn, 1) := by decide +kernel
theorem dX9_goes_131 : decode cX9_goes 131 = .ok (.aload_n 0, 1) := by decide +kernel
theorem dX9_goes_132 : decode cX9_goes 132 = .ok (.dup, 1) := by decide +kernel
theorem dX9_goes_133 : decode cX9_goes 133 = .ok (.getfield 161, 3) := by decide +kernel
theorem dX9_goes_136 : decode cX9_goes 136 = .ok (.aload_n 0, 1) := by decide +kernel
theorem dX9_goes_137 : decode cX9_goes 137 = .ok (.iload_n 1, 1) := by decide +kernel
theorem dX9_goes_138 : decode cX9_goes 138 = .ok (.iload 5, 2) := by decide +kernel
theorem dX9_goes_140 : decode cX9_goes 140 = .ok (.invokevirtual 170, 3) := by decide +kernel
theorem dX9_goes_143 : decode cX9_goes 143 = .ok (.isub, 1) := by decide +kernel
theorem dX9_goes_144 : decode cX9_goes 144 = .ok (.putfield 161, 3) := by decide +kernel
theorem dX9_goes_147 : decode cX9_goes 147 = .ok (.iload_n 3, 1) := by decide +kernel
theorem dX9_goes_148 : decode cX9_goes 148 = .ok (.aload_n 0, 1) := by decide +kernel
theorem dX9_goes_149 : decode cX9_goes 149 = .ok (.iload_n 1, 1) := by decide +kernel
theorem dX9_goes_150 : decode cX9_goes 150 = .ok (.iload 5, 2) := by decide +kernel
theorem dX9_goes_152 : decode cX9_goes 152 = .ok (.iload 4, 2) := by decide +kernel
theorem dX9_goes_154 : decode cX9_goes 154 = .ok (.invokevirtual 173, 3) := by decide +kernel
theorem dX9_goes_157 : decode cX9_goes 157 = .ok (.iadd, 1) := by decide +kernel
theorem dX9_goes_158 : decode cX9_goes 158 = .ok (.invokestatic 164, 3) := by decide +kernel
theorem dX9_goes_161 : decode cX9_goes 161 = .ok (.istore_n 3, 1) := by decide +kernel
theorem dX9_goes_162 : decode cX9_goes 162 = .ok (.aload_n 0, 1) := by decide +kernel
theorem dX9_goes_163 : decode cX9_goes 163 = .ok (.getfield 41, 3) := by decide +kernel
theorem dX9_goes_166 : decode cX9_goes 166 = .ok (.iload 4, 2) := by decide +kernel
theorem dX9_goes_168 : decode cX9_goes 168 = .ok (.iload_n 3, 1) := by decide +kernel
theorem dX9_goes_169 : decode cX9_goes 169 = .ok (.iastore, 1) := by decide +kernel
theorem dX9_goes_170 : decode cX9_goes 170 = .ok (.aload_n 0, 1) := by decide +kernel
theorem dX9_goes_171 : decode cX9_goes 171 = .ok (.getfield 161, 3) := by decide +kernel
theorem dX9_goes_174 : decode cX9_goes 174 = .ok (.iconst 1, 1) := by decide +kernel
theorem dX9_goes_175 : decode cX9_goes 175 = .ok (.if_icmp .ge 11, 3) := by decide +kernel
theorem dX9_goes_178 : decode cX9_goes 178 = .ok (.aload_n 0, 1) := by decide +kernel
theorem dX9_goes_179 : decode cX9_goes 179 = .ok (.iconst 0, 1) := by decide +kernel
theorem dX9_goes_180 : decode cX9_goes 180 = .ok (.putfield 161, 3) := by decide +kernel
theorem dX9_goes_183 : decode cX9_goes 183 = .ok (.iload 5, 2) := by decide +kernel
theorem dX9_goes_185 : decode cX9_goes 185 = .ok (.ireturn, 1) := by decide +kernel
theorem dX9_goes_186 : decode cX9_goes 186 = .ok (.iinc 4 1, 3) := by decide +kernel
theorem dX9_goes_189 : decode cX9_goes 189 = .ok (.goto (-144), 3) := by decide +kernel
theorem dX9_goes_192 : decode cX9_goes 192 = .ok (.ldc 128, 2) := by decide +kernel
theorem dX9_goes_194 : decode cX9_goes 194 = .ok (.ireturn, 1) := by decide +kernel
theorem dX9_startOf_0 : decode cX9_startOf 0 = .ok (.aload_n 0, 1) := by decide +kernel
theorem dX9_startOf_1 : decode cX9_startOf 1 = .ok (.getfield 7, 3) := by decide +kernel
theorem dX9_startOf_4 : decode cX9_startOf 4 = .ok (.iload_n 1, 1) := by decide +kernel
theorem dX9_startOf_5 : decode cX9_startOf 5 = .ok (.iconst 2, 1) := by decide +kernel
theorem dX9_startOf_6 : decode cX9_startOf 6 = .ok (.iadd, 1) := by decide +kernel
theorem dX9_startOf_7 : decode cX9_startOf 7 = .ok (.iaload, 1) := by decide +kernel
theorem dX9_startOf_8 : decode cX9_startOf 8 = .ok (.aload_n 0, 1) := by decide +kernel
theorem dX9_startOf_9 : decode cX9_startOf 9 = .ok (.getfield 7, 3) := by decide +kernel
theorem dX9_startOf_12 : decode cX9_startOf 12 = .ok (.iload_n 1, 1) := by decide +kernel
theorem dX9_startOf_13 : decode cX9_startOf 13 = .ok (.iconst 3, 1) := by decide +kernel
theorem dX9_startOf_14 : decode cX9_startOf 14 = .ok (.iadd, 1) := by decide +kernel
theorem dX9_startOf_15 : decode cX9_startOf 15 = .ok (.iaload, 1) := by decide +kernel
theorem dX9_startOf_16 : decode cX9_startOf 16 = .ok (.aload_n 0, 1) := by decide +kernel
theorem dX9_startOf_17 : decode cX9_startOf 17 = .ok (.getfield 7, 3) := by decide +kernel
theorem dX9_startOf_20 : decode cX9_startOf 20 = .ok (.iload_n 1, 1) := by decide +kernel
theorem dX9_startOf_21 : decode cX9_startOf 21 = .ok (.bipush 7, 2) := by decide +kernel
theorem dX9_startOf_23 : decode cX9_startOf 23 = .ok (.iadd, 1) := by decide +kernel
theorem dX9_startOf_24 : decode cX9_startOf 24 = .ok (.iaload, 1) := by decide +kernel
theorem dX9_startOf_25 : decode cX9_startOf 25 = .ok (.imul, 1) := by decide +kernel
theorem dX9_startOf_26 : decode cX9_startOf 26 = .ok (.iadd, 1) := by decide +kernel
theorem dX9_startOf_27 : decode cX9_startOf 27 = .ok (.bipush 7, 2) := by decide +kernel
theorem dX9_startOf_29 : decode cX9_startOf 29 = .ok (.irem, 1) := by decide +kernel
theorem dX9_startOf_30 : decode cX9_startOf 30 = .ok (.ireturn, 1) := by decide +kernel
theorem dX9_rollsNow_0 : decode cX9_rollsNow 0 = .ok (.aload_n 0, 1) := by decide +kernel
theorem dX9_rollsNow_1 : decode cX9_rollsNow 1 = .ok (.iload_n 1, 1) := by decide +kernel
theorem dX9_rollsNow_2 : decode cX9_rollsNow 2 = .ok (.aload_n 0, 1) := by decide +kernel
theorem dX9_rollsNow_3 : decode cX9_rollsNow 3 = .ok (.iload_n 1, 1) := by decide +kernel
theorem dX9_rollsNow_4 : decode cX9_rollsNow 4 = .ok (.invokevirtual 176, 3) := by decide +kernel
theorem dX9_rollsNow_7 : decode cX9_rollsNow 7 = .ok (.invokevirtual 179, 3) := by decide +kernel
theorem dX9_rollsNow_10 : decode cX9_rollsNow 10 = .ok (.ireturn, 1) := by decide +kernel
theorem dX9_pass_0 : decode cX9_pass 0 = .ok (.aload_n 0, 1) := by decide +kernel
theorem dX9_pass_1 : decode cX9_pass 1 = .ok (.iload_n 1, 1) := by decide +kernel
theorem dX9_pass_2 : decode cX9_pass 2 = .ok (.invokevirtual 182, 3) := by decide +kernel
theorem dX9_pass_5 : decode cX9_pass 5 = .ok (.istore_n 2, 1) := by decide +kernel
theorem dX9_pass_6 : decode cX9_pass 6 = .ok (.iload_n 2, 1) := by decide +kernel
theorem dX9_pass_7 : decode cX9_pass 7 = .ok (.ldc 128, 2) := by decide +kernel
theorem dX9_pass_9 : decode cX9_pass 9 = .ok (.if_icmp .eq 18, 3) := by decide +kernel
theorem dX9_pass_12 : decode cX9_pass 12 = .ok (.aload_n 0, 1) := by decide +kernel
theorem dX9_pass_13 : decode cX9_pass 13 = .ok (.getfield 7, 3) := by decide +kernel
theorem dX9_pass_16 : decode cX9_pass 16 = .ok (.iload_n 1, 1) := by decide +kernel
theorem dX9_pass_17 : decode cX9_pass 17 = .ok (.bipush 33, 2) := by decide +kernel
theorem dX9_pass_19 : decode cX9_pass 19 = .ok (.iadd, 1) := by decide +kernel
theorem dX9_pass_20 : decode cX9_pass 20 = .ok (.iload_n 2, 1) := by decide +kernel
theorem dX9_pass_21 : decode cX9_pass 21 = .ok (.iadd, 1) := by decide +kernel
theorem dX9_pass_22 : decode cX9_pass 22 = .ok (.dup2, 1) := by decide +kernel
theorem dX9_pass_23 : decode cX9_pass 23 = .ok (.iaload, 1) := by decide +kernel
theorem dX9_pass_24 : decode cX9_pass 24 = .ok (.iconst 1, 1) := by decide +kernel
theorem dX9_pass_25 : decode cX9_pass 25 = .ok (.iadd, 1) := by decide +kernel
theorem dX9_pass_26 : decode cX9_pass 26 = .ok (.iastore, 1) := by decide +kernel
theorem dX9_pass_27 : decode cX9_pass 27 = .ok (.aload_n 0, 1) := by decide +kernel
theorem dX9_pass_28 : decode cX9_pass 28 = .ok (.getfield 7, 3) := by decide +kernel
theorem dX9_pass_31 : decode cX9_pass 31 = .ok (.iload_n 1, 1) := by decide +kernel
theorem dX9_pass_32 : decode cX9_pass 32 = .ok (.bipush 7, 2) := by decide +kernel
theorem dX9_pass_34 : decode cX9_pass 34 = .ok (.iadd, 1) := by decide +kernel
theorem dX9_pass_35 : decode cX9_pass 35 = .ok (.dup2, 1) := by decide +kernel
theorem dX9_pass_36 : decode cX9_pass 36 = .ok (.iaload, 1) := by decide +kernel
theorem dX9_pass_37 : decode cX9_pass 37 = .ok (.iconst 1, 1) := by decide +kernel
theorem dX9_pass_38 : decode cX9_pass 38 = .ok (.iadd, 1) := by decide +kernel
theorem dX9_pass_39 : decode cX9_pass 39 = .ok (.iastore, 1) := by decide +kernel
theorem dX9_pass_40 : decode cX9_pass 40 = .ok (.iload_n 2, 1) := by decide +kernel
theorem dX9_pass_41 : decode cX9_pass 41 = .ok (.ireturn, 1) := by decide +kernel
theorem dX9_years_0 : decode cX9_years 0 = .ok (.aload_n 0, 1) := by decide +kernel
theorem dX9_years_1 : decode cX9_years 1 = .ok (.getfield 150, 3) := by decide +kernel
theorem dX9_years_4 : decode cX9_years 4 = .ok (.ifCond .ne 6, 3) := by decide +kernel
theorem dX9_years_7 : decode cX9_years 7 = .ok (.ldc 157, 2) := by decide +kernel
theorem dX9_years_9 : decode cX9_years 9 = .ok (.ireturn, 1) := by decide +kernel
theorem dX9_years_10 : decode cX9_years 10 = .ok (.iload_n 1, 1) := by decide +kernel
theorem dX9_years_11 : decode cX9_years 11 = .ok (.i2l, 1) := by decide +kernel
theorem dX9_years_12 : decode cX9_years 12 = .ok (.lconst 1, 1) := by decide +kernel
theorem dX9_years_13 : decode cX9_years 13 = .ok (.ldc2_w 185, 3) := by decide +kernel
theorem dX9_years_16 : decode cX9_years 16 = .ok (.invokestatic 60, 3) := by decide +kernel
theorem dX9_years_19 : decode cX9_years 19 = .ok (.ifCond .ne 6, 3) := by decide +kernel
theorem dX9_years_22 : decode cX9_years 22 = .ok (.ldc 70, 2) := by decide +kernel
theorem dX9_years_24 : decode cX9_years 24 = .ok (.ireturn, 1) := by decide +kernel
theorem dX9_years_25 : decode cX9_years 25 = .ok (.aload_n 0, 1) := by decide +kernel
theorem dX9_years_26 : decode cX9_years 26 = .ok (.getfield 7, 3) := by decide +kernel
theorem dX9_years_29 : decode cX9_years 29 = .ok (.bipush 7, 2) := by decide +kernel
theorem dX9_years_31 : decode cX9_years 31 = .ok (.iaload, 1) := by decide +kernel
theorem dX9_years_32 : decode cX9_years 32 = .ok (.iload_n 1, 1) := by decide +kernel
theorem dX9_years_33 : decode cX9_years 33 = .ok (.iadd, 1) := by decide +kernel
theorem dX9_years_34 : decode cX9_years 34 = .ok (.sipush 999, 3) := by decide +kernel
theorem dX9_years_37 : decode cX9_years 37 = .ok (.if_icmp .le 6, 3) := by decide +kernel
theorem dX9_years_40 : decode cX9_years 40 = .ok (.ldc 91, 2) := by decide +kernel
theorem dX9_years_42 : decode cX9_years 42 = .ok (.ireturn, 1) := by decide +kernel
theorem dX9_years_43 : decode cX9_years 43 = .ok (.ldc 128, 2) := by decide +kernel
theorem dX9_years_45 : decode cX9_years 45 = .ok (.istore_n 2, 1) := by decide +kernel
theorem dX9_years_46 : decode cX9_years 46 = .ok (.iconst 0, 1) := by decide +kernel
theorem dX9_years_47 : decode cX9_years 47 = .ok (.istore_n 3, 1) := by decide +kernel
theorem dX9_years_48 : decode cX9_years 48 = .ok (.iload_n 3, 1) := by decide +kernel
theorem dX9_years_49 : decode cX9_years 49 = .ok (.iload_n 1, 1) := by decide +kernel
theorem dX9_years_50 : decode cX9_years 50 = .ok (.if_icmp .ge 19, 3) := by decide +kernel
theorem dX9_years_53 : decode cX9_years 53 = .ok (.aload_n 0, 1) := by decide +kernel
theorem dX9_years_54 : decode cX9_years 54 = .ok (.invokevirtual 187, 3) := by decide +kernel
theorem dX9_years_57 : decode cX9_years 57 = .ok (.aload_n 0, 1) := by decide +kernel
theorem dX9_years_58 : decode cX9_years 58 = .ok (.iconst 0, 1) := by decide +kernel
theorem dX9_years_59 : decode cX9_years 59 = .ok (.invokevirtual 190, 3) := by decide +kernel
theorem dX9_years_62 : decode cX9_years 62 = .ok (.istore_n 2, 1) := by decide +kernel
theorem dX9_years_63 : decode cX9_years 63 = .ok (.iinc 3 1, 3) := by decide +kernel
theorem dX9_years_66 : decode cX9_years 66 = .ok (.goto (-18), 3) := by decide +kernel
theorem dX9_years_69 : decode cX9_years 69 = .ok (.iload_n 2, 1) := by decide +kernel
theorem dX9_years_70 : decode cX9_years 70 = .ok (.ireturn, 1) := by decide +kernel
theorem dX9_door_0 : decode cX9_door 0 = .ok (.aload_n 0, 1) := by decide +kernel
theorem dX9_door_1 : decode cX9_door 1 = .ok (.iload_n 1, 1) := by decide +kernel
theorem dX9_door_2 : decode cX9_door 2 = .ok (.invokevirtual 193, 3) := by decide +kernel
theorem dX9_door_5 : decode cX9_door 5 = .ok (.ifCond .eq 13, 3) := by decide +kernel
theorem dX9_door_8 : decode cX9_door 8 = .ok (.iload_n 2, 1) := by decide +kernel
theorem dX9_door_9 : decode cX9_door 9 = .ok (.i2l, 1) := by decide +kernel
theorem dX9_door_10 : decode cX9_door 10 = .ok (.lconst 0, 1) := by decide +kernel
theorem dX9_door_11 : decode cX9_door 11 = .ok (.lconst 1, 1) := by decide +kernel
theorem dX9_door_12 : decode cX9_door 12 = .ok (.invokestatic 60, 3) := by decide +kernel
theorem dX9_door_15 : decode cX9_door 15 = .ok (.ifCond .ne 6, 3) := by decide +kernel
theorem dX9_door_18 : decode cX9_door 18 = .ok (.ldc 70, 2) := by decide +kernel
theorem dX9_door_20 : decode cX9_door 20 = .ok (.ireturn, 1) := by decide +kernel
theorem dX9_door_21 : decode cX9_door 21 = .ok (.aload_n 0, 1) := by decide +kernel
theorem dX9_door_22 : decode cX9_door 22 = .ok (.getfield 7, 3) := by decide +kernel
theorem dX9_door_25 : decode cX9_door 25 = .ok (.bipush 8, 2) := by decide +kernel
theorem dX9_door_27 : decode cX9_door 27 = .ok (.iaload, 1) := by decide +kernel
theorem dX9_door_28 : decode cX9_door 28 = .ok (.iload_n 1, 1) := by decide +kernel
theorem dX9_door_29 : decode cX9_door 29 = .ok (.invokestatic 158, 3) := by decide +kernel
theorem dX9_door_32 : decode cX9_door 32 = .ok (.iload_n 2, 1) := by decide +kernel
theorem dX9_door_33 : decode cX9_door 33 = .ok (.iconst 1, 1) := by decide +kernel
theorem dX9_door_34 : decode cX9_door 34 = .ok (.if_icmp .ne 7, 3) := by decide +kernel
theorem dX9_door_37 : decode cX9_door 37 = .ok (.iconst 1, 1) := by decide +kernel
theorem dX9_door_38 : decode cX9_door 38 = .ok (.goto 4, 3) := by decide +kernel
theorem dX9_door_41 : decode cX9_door 41 = .ok (.iconst 0, 1) := by decide +kernel
theorem dX9_door_42 : decode cX9_door 42 = .ok (.if_icmp .ne 6, 3) := by decide +kernel
theorem dX9_door_45 : decode cX9_door 45 = .ok (.ldc 157, 2) := by decide +kernel
theorem dX9_door_47 : decode cX9_door 47 = .ok (.ireturn, 1) := by decide +kernel
theorem dX9_door_48 : decode cX9_door 48 = .ok (.aload_n 0, 1) := by decide +kernel
theorem dX9_door_49 : decode cX9_door 49 = .ok (.invokevirtual 187, 3) := by decide +kernel
theorem dX9_door_52 : decode cX9_door 52 = .ok (.aload_n 0, 1) := by decide +kernel
theorem dX9_door_53 : decode cX9_door 53 = .ok (.getfield 7, 3) := by decide +kernel
theorem dX9_door_56 : decode cX9_door 56 = .ok (.bipush 8, 2) := by decide +kernel
theorem dX9_door_58 : decode cX9_door 58 = .ok (.dup2, 1) := by decide +kernel
theorem dX9_door_59 : decode cX9_door 59 = .ok (.iaload, 1) := by decide +kernel
theorem dX9_door_60 : decode cX9_door 60 = .ok (.iconst 1, 1) := by decide +kernel
theorem dX9_door_61 : decode cX9_door 61 = .ok (.iload_n 1, 1) := by decide +kernel
theorem dX9_door_62 : decode cX9_door 62 = .ok (.ishl, 1) := by decide +kernel
theorem dX9_door_63 : decode cX9_door 63 = .ok (.ixor, 1) := by decide +kernel
theorem dX9_door_64 : decode cX9_door 64 = .ok (.iastore, 1) := by decide +kernel
theorem dX9_door_65 : decode cX9_door 65 = .ok (.aload_n 0, 1) := by decide +kernel
theorem dX9_door_66 : decode cX9_door 66 = .ok (.getfield 7, 3) := by decide +kernel
theorem dX9_door_69 : decode cX9_door 69 = .ok (.bipush 8, 2) := by decide +kernel
theorem dX9_door_71 : decode cX9_door 71 = .ok (.iaload, 1) := by decide +kernel
theorem dX9_door_72 : decode cX9_door 72 = .ok (.ireturn, 1) := by decide +kernel
theorem dX9_isPlace_0 : decode cX9_isPlace 0 = .ok (.iload_n 1, 1) := by decide +kernel
theorem dX9_isPlace_1 : decode cX9_isPlace 1 = .ok (.i2l, 1) := by decide +kernel
theorem dX9_isPlace_2 : decode cX9_isPlace 2 = .ok (.lconst 1, 1) := by decide +kernel
theorem dX9_isPlace_3 : decode cX9_isPlace 3 = .ok (.aload_n 0, 1) := by decide +kernel
theorem dX9_isPlace_4 : decode cX9_isPlace 4 = .ok (.getfield 7, 3) := by decide +kernel
theorem dX9_isPlace_7 : decode cX9_isPlace 7 = .ok (.iconst 0, 1) := by decide +kernel
theorem dX9_isPlace_8 : decode cX9_isPlace 8 = .ok (.iaload, 1) := by decide +kernel
theorem dX9_isPlace_9 : decode cX9_isPlace 9 = .ok (.i2l, 1) := by decide +kernel
theorem dX9_isPlace_10 : decode cX9_isPlace 10 = .ok (.invokestatic 60, 3) := by decide +kernel
theorem dX9_isPlace_13 : decode cX9_isPlace 13 = .ok (.ifCond .eq 19, 3) := by decide +kernel
theorem dX9_isPlace_16 : decode cX9_isPlace 16 = .ok (.iload_n 2, 1) := by decide +kernel
theorem dX9_isPlace_17 : decode cX9_isPlace 17 = .ok (.i2l, 1) := by decide +kernel
theorem dX9_isPlace_18 : decode cX9_isPlace 18 = .ok (.lconst 0, 1) := by decide +kernel
theorem dX9_isPlace_19 : decode cX9_isPlace 19 = .ok (.ldc2_w 196, 3) := by decide +kernel
theorem dX9_isPlace_22 : decode cX9_isPlace 22 = .ok (.invokestatic 60, 3) := by decide +kernel
theorem dX9_isPlace_25 : decode cX9_isPlace 25 = .ok (.ifCond .eq 7, 3) := by decide +kernel
theorem dX9_isPlace_28 : decode cX9_isPlace 28 = .ok (.iconst 1, 1) := by decide +kernel
theorem dX9_isPlace_29 : decode cX9_isPlace 29 = .ok (.goto 4, 3) := by decide +kernel
theorem dX9_isPlace_32 : decode cX9_isPlace 32 = .ok (.iconst 0, 1) := by decide +kernel
theorem dX9_isPlace_33 : decode cX9_isPlace 33 = .ok (.ireturn, 1) := by decide +kernel
theorem dX9_build_0 : decode cX9_build 0 = .ok (.aload_n 0, 1) := by decide +kernel
theorem dX9_build_1 : decode cX9_build 1 = .ok (.iload_n 1, 1) := by decide +kernel
theorem dX9_build_2 : decode cX9_build 2 = .ok (.invokevirtual 193, 3) := by decide +kernel
theorem dX9_build_5 : decode cX9_build 5 = .ok (.ifCond .eq 12, 3) := by decide +kernel
theorem dX9_build_8 : decode cX9_build 8 = .ok (.aload_n 0, 1) := by decide +kernel
theorem dX9_build_9 : decode cX9_build 9 = .ok (.iload_n 2, 1) := by decide +kernel
theorem dX9_build_10 : decode cX9_build 10 = .ok (.iload_n 3, 1) := by decide +kernel
theorem dX9_build_11 : decode cX9_build 11 = .ok (.invokevirtual 198, 3) := by decide +kernel
theorem dX9_build_14 : decode cX9_build 14 = .ok (.ifCond .ne 6, 3) := by decide +kernel
theorem dX9_build_17 : decode cX9_build 17 = .ok (.ldc 70, 2) := by decide +kernel
theorem dX9_build_19 : decode cX9_build 19 = .ok (.ireturn, 1) := by decide +kernel
theorem dX9_build_20 : decode cX9_build 20 = .ok (.aload_n 0, 1) := by decide +kernel
theorem dX9_build_21 : decode cX9_build 21 = .ok (.iconst 0, 1) := by decide +kernel
theorem dX9_build_22 : decode cX9_build 22 = .ok (.iload_n 2, 1) := by decide +kernel
theorem dX9_build_23 : decode cX9_build 23 = .ok (.iload_n 3, 1) := by decide +kernel
theorem dX9_build_24 : decode cX9_build 24 = .ok (.invokevirtual 124, 3) := by decide +kernel
theorem dX9_build_27 : decode cX9_build 27 = .ok (.ldc 128, 2) := by decide +kernel
theorem dX9_build_29 : decode cX9_build 29 = .ok (.if_icmp .eq 6, 3) := by decide +kernel
theorem dX9_build_32 : decode cX9_build 32 = .ok (.ldc 157, 2) := by decide +kernel
theorem dX9_build_34 : decode cX9_build 34 = .ok (.ireturn, 1) := by decide +kernel
theorem dX9_build_35 : decode cX9_build 35 = .ok (.aload_n 0, 1) := by decide +kernel
theorem dX9_build_36 : decode cX9_build 36 = .ok (.invokevirtual 187, 3) := by decide +kernel
theorem dX9_build_39 : decode cX9_build 39 = .ok (.bipush 10, 2) := by decide +kernel
theorem dX9_build_41 : decode cX9_build 41 = .ok (.aload_n 0, 1) := by decide +kernel
theorem dX9_build_42 : decode cX9_build 42 = .ok (.getfield 7, 3) := by decide +kernel
theorem dX9_build_45 : decode cX9_build 45 = .ok (.bipush 15, 2) := by decide +kernel
theorem dX9_build_47 : decode cX9_build 47 = .ok (.iload_n 1, 1) := by decide +kernel
theorem dX9_build_48 : decode cX9_build 48 = .ok (.iadd, 1) := by decide +kernel
theorem dX9_build_49 : decode cX9_build 49 = .ok (.iaload, 1) := by decide +kernel
theorem dX9_build_50 : decode cX9_build 50 = .ok (.imul, 1) := by decide +kernel
theorem dX9_build_51 : decode cX9_build 51 = .ok (.aload_n 0, 1) := by decide +kernel
theorem dX9_build_52 : decode cX9_build 52 = .ok (.getfield 7, 3) := by decide +kernel
theorem dX9_build_55 : decode cX9_build 55 = .ok (.bipush 21, 2) := by decide +kernel
theorem dX9_build_57 : decode cX9_build 57 = .ok (.iload_n 1, 1) := by decide +kernel
theorem dX9_build_58 : decode cX9_build 58 = .ok (.iadd, 1) := by decide +kernel
theorem dX9_build_59 : decode cX9_build 59 = .ok (.iaload, 1) := by decide +kernel
theorem dX9_build_60 : decode cX9_build 60 = .ok (.iadd, 1) := by decide +kernel
theorem dX9_build_61 : decode cX9_build 61 = .ok (.istore 4, 2) := by decide +kernel
theorem dX9_build_63 : decode cX9_build 63 = .ok (.aload_n 0, 1) := by decide +kernel
theorem dX9_build_64 : decode cX9_build 64 = .ok (.getfield 7, 3) := by decide +kernel
theorem dX9_build_67 : decode cX9_build 67 = .ok (.bipush 15, 2) := by decide +kernel
theorem dX9_build_69 : decode cX9_build 69 = .ok (.iload_n 1, 1) := by decide +kernel
theorem dX9_build_70 : decode cX9_build 70 = .ok (.iadd, 1) := by decide +kernel
theorem dX9_build_71 : decode cX9_build 71 = .ok (.iload_n 2, 1) := by decide +kernel
theorem dX9_build_72 : decode cX9_build 72 = .ok (.iastore, 1) := by decide +kernel
theorem dX9_build_73 : decode cX9_build 73 = .ok (.aload_n 0, 1) := by decide +kernel
theorem dX9_build_74 : decode cX9_build 74 = .ok (.getfield 7, 3) := by decide +kernel
theorem dX9_build_77 : decode cX9_build 77 = .ok (.bipush 21, 2) := by decide +kernel
theorem dX9_build_79 : decode cX9_build 79 = .ok (.iload_n 1, 1) := by decide +kernel
theorem dX9_build_80 : decode cX9_build 80 = .ok (.iadd, 1) := by decide +kernel
theorem dX9_build_81 : decode cX9_build 81 = .ok (.iload_n 3, 1) := by decide +kernel
theorem dX9_build_82 : decode cX9_build 82 = .ok (.iastore, 1) := by decide +kernel
theorem dX9_build_83 : decode cX9_build 83 = .ok (.iload 4, 2) := by decide +kernel
theorem dX9_build_85 : decode cX9_build 85 = .ok (.ireturn, 1) := by decide +kernel
theorem dX9_speed_0 : decode cX9_speed 0 = .ok (.aload_n 0, 1) := by decide +kernel
theorem dX9_speed_1 : decode cX9_speed 1 = .ok (.getfield 150, 3) := by decide +kernel
theorem dX9_speed_4 : decode cX9_speed 4 = .ok (.ifCond .ne 6, 3) := by decide +kernel
theorem dX9_speed_7 : decode cX9_speed 7 = .ok (.ldc 157, 2) := by decide +kernel
theorem dX9_speed_9 : decode cX9_speed 9 = .ok (.ireturn, 1) := by decide +kernel
theorem dX9_speed_10 : decode cX9_speed 10 = .ok (.iload_n 1, 1) := by decide +kernel
theorem dX9_speed_11 : decode cX9_speed 11 = .ok (.i2l, 1) := by decide +kernel
theorem dX9_speed_12 : decode cX9_speed 12 = .ok (.lconst 1, 1) := by decide +kernel
theorem dX9_speed_13 : decode cX9_speed 13 = .ok (.ldc2_w 201, 3) := by decide +kernel
theorem dX9_speed_16 : decode cX9_speed 16 = .ok (.invokestatic 60, 3) := by decide +kernel
theorem dX9_speed_19 : decode cX9_speed 19 = .ok (.ifCond .ne 6, 3) := by decide +kernel
theorem dX9_speed_22 : decode cX9_speed 22 = .ok (.ldc 70, 2) := by decide +kernel
theorem dX9_speed_24 : decode cX9_speed 24 = .ok (.ireturn, 1) := by decide +kernel
theorem dX9_speed_25 : decode cX9_speed 25 = .ok (.aload_n 0, 1) := by decide +kernel
theorem dX9_speed_26 : decode cX9_speed 26 = .ok (.invokevirtual 187, 3) := by decide +kernel
theorem dX9_speed_29 : decode cX9_speed 29 = .ok (.aload_n 0, 1) := by decide +kernel
theorem dX9_speed_30 : decode cX9_speed 30 = .ok (.getfield 7, 3) := by decide +kernel
theorem dX9_speed_33 : decode cX9_speed 33 = .ok (.iconst 4, 1) := by decide +kernel
theorem dX9_speed_34 : decode cX9_speed 34 = .ok (.iaload, 1) := by decide +kernel
theorem dX9_speed_35 : decode cX9_speed 35 = .ok (.istore_n 2, 1) := by decide +kernel
theorem dX9_speed_36 : decode cX9_speed 36 = .ok (.aload_n 0, 1) := by decide +kernel
theorem dX9_speed_37 : decode cX9_speed 37 = .ok (.getfield 7, 3) := by decide +kernel
theorem dX9_speed_40 : decode cX9_speed 40 = .ok (.iconst 4, 1) := by decide +kernel
theorem dX9_speed_41 : decode cX9_speed 41 = .ok (.iload_n 1, 1) := by decide +kernel
theorem dX9_speed_42 : decode cX9_speed 42 = .ok (.iastore, 1) := by decide +kernel
theorem dX9_speed_43 : decode cX9_speed 43 = .ok (.iload_n 2, 1) := by decide +kernel
theorem dX9_speed_44 : decode cX9_speed 44 = .ok (.ireturn, 1) := by decide +kernel
theorem dX9_house_0 : decode cX9_house 0 = .ok (.aload_n 0, 1) := by decide +kernel
theorem dX9_house_1 : decode cX9_house 1 = .ok (.iload_n 1, 1) := by decide +kernel
theorem dX9_house_2 : decode cX9_house 2 = .ok (.invokevirtual 193, 3) := by decide +kernel
theorem dX9_house_5 : decode cX9_house 5 = .ok (.ifCond .ne 6, 3) := by decide +kernel
theorem dX9_house_8 : decode cX9_house 8 = .ok (.ldc 70, 2) := by decide +kernel
theorem dX9_house_10 : decode cX9_house 10 = .ok (.ireturn, 1) := by decide +kernel
theorem dX9_house_11 : decode cX9_house 11 = .ok (.iload_n 2, 1) := by decide +kernel
theorem dX9_house_12 : decode cX9_house 12 = .ok (.tableswitch 88 0 4 #[36, 46, 56, 66, 78], 36) := by decide +kernel
theorem dX9_house_48 : decode cX9_house 48 = .ok (.aload_n 0, 1) := by decide +kernel
theorem dX9_house_49 : decode cX9_house 49 = .ok (.getfield 7, 3) := by decide +kernel
theorem dX9_house_52 : decode cX9_house 52 = .ok (.bipush 15, 2) := by decide +kernel
theorem dX9_house_54 : decode cX9_house 54 = .ok (.iload_n 1, 1) := by decide +kernel
theorem dX9_house_55 : decode cX9_house 55 = .ok (.iadd, 1) := by decide +kernel
theorem dX9_house_56 : decode cX9_house 56 = .ok (.iaload, 1) := by decide +kernel
theorem dX9_house_57 : decode cX9_house 57 = .ok (.ireturn, 1) := by decide +kernel
theorem dX9_house_58 : decode cX9_house 58 = .ok (.aload_n 0, 1) := by decide +kernel
theorem dX9_house_59 : decode cX9_house 59 = .ok (.getfield 7, 3) := by decide +kernel
theorem dX9_house_62 : decode cX9_house 62 = .ok (.bipush 21, 2) := by decide +kernel
theorem dX9_house_64 : decode cX9_house 64 = .ok (.iload_n 1, 1) := by decide +kernel
theorem dX9_house_65 : decode cX9_house 65 = .ok (.iadd, 1) := by decide +kernel
theorem dX9_house_66 : decode cX9_house 66 = .ok (.iaload, 1) := by decide +kernel
theorem dX9_house_67 : decode cX9_house 67 = .ok (.ireturn, 1) := by decide +kernel
theorem dX9_house_68 : decode cX9_house 68 = .ok (.aload_n 0, 1) := by decide +kernel
theorem dX9_house_69 : decode cX9_house 69 = .ok (.getfield 7, 3) := by decide +kernel
theorem dX9_house_72 : decode cX9_house 72 = .ok (.bipush 27, 2) := by decide +kernel
theorem dX9_house_74 : decode cX9_house 74 = .ok (.iload_n 1, 1) := by decide +kernel
theorem dX9_house_75 : decode cX9_house 75 = .ok (.iadd, 1) := by decide +kernel
theorem dX9_house_76 : decode cX9_house 76 = .ok (.iaload, 1) := by decide +kernel
theorem dX9_house_77 : decode cX9_house 77 = .ok (.ireturn, 1) := by decide +kernel
theorem dX9_house_78 : decode cX9_house 78 = .ok (.aload_n 0, 1) := by decide +kernel
theorem dX9_house_79 : decode cX9_house 79 = .ok (.getfield 7, 3) := by decide +kernel
theorem dX9_house_82 : decode cX9_house 82 = .ok (.bipush 8, 2) := by decide +kernel
theorem dX9_house_84 : decode cX9_house 84 = .ok (.iaload, 1) := by decide +kernel
theorem dX9_house_85 : decode cX9_house 85 = .ok (.iload_n 1, 1) := by decide +kernel
theorem dX9_house_86 : decode cX9_house 86 = .ok (.ishr, 1) := by decide +kernel
theorem dX9_house_87 : decode cX9_house 87 = .ok (.iconst 1, 1) := by decide +kernel
theorem dX9_house_88 : decode cX9_house 88 = .ok (.iand, 1) := by decide +kernel
theorem dX9_house_89 : decode cX9_house 89 = .ok (.ireturn, 1) := by decide +kernel
theorem dX9_house_90 : decode cX9_house 90 = .ok (.aload_n 0, 1) := by decide +kernel
theorem dX9_house_91 : decode cX9_house 91 = .ok (.getfield 7, 3) := by decide +kernel
theorem dX9_house_94 : decode cX9_house 94 = .ok (.bipush 33, 2) := by decide +kernel
theorem dX9_house_96 : decode cX9_house 96 = .ok (.iload_n 1, 1) := by decide +kernel
theorem dX9_house_97 : decode cX9_house 97 = .ok (.iadd, 1) := by decide +kernel
theorem dX9_house_98 : decode cX9_house 98 = .ok (.iaload, 1) := by decide +kernel
theorem dX9_house_99 : decode cX9_house 99 = .ok (.ireturn, 1) := by decide +kernel
theorem dX9_house_100 : decode cX9_house 100 = .ok (.ldc 70, 2) := by decide +kernel
theorem dX9_house_102 : decode cX9_house 102 = .ok (.ireturn, 1) := by decide +kernel
theorem dX9_at_0 : decode cX9_at 0 = .ok (.aload_n 0, 1) := by decide +kernel
theorem dX9_at_1 : decode cX9_at 1 = .ok (.iload_n 1, 1) := by decide +kernel
theorem dX9_at_2 : decode cX9_at 2 = .ok (.iload_n 2, 1) := by decide +kernel
theorem dX9_at_3 : decode cX9_at 3 = .ok (.invokevirtual 198, 3) := by decide +kernel
theorem dX9_at_6 : decode cX9_at 6 = .ok (.ifCond .eq 13, 3) := by decide +kernel
theorem dX9_at_9 : decode cX9_at 9 = .ok (.aload_n 0, 1) := by decide +kernel
theorem dX9_at_10 : decode cX9_at 10 = .ok (.iconst 0, 1) := by decide +kernel
theorem dX9_at_11 : decode cX9_at 11 = .ok (.iload_n 1, 1) := by decide +kernel
theorem dX9_at_12 : decode cX9_at 12 = .ok (.iload_n 2, 1) := by decide +kernel
theorem dX9_at_13 : decode cX9_at 13 = .ok (.invokevirtual 124, 3) := by decide +kernel
theorem dX9_at_16 : decode cX9_at 16 = .ok (.goto 5, 3) := by decide +kernel
theorem dX9_at_19 : decode cX9_at 19 = .ok (.ldc 70, 2) := by decide +kernel
theorem dX9_at_21 : decode cX9_at 21 = .ok (.ireturn, 1) := by decide +kernel
theorem dX9_layTried_0 : decode cX9_layTried 0 = .ok (.aload_n 0, 1) := by decide +kernel
theorem dX9_layTried_1 : decode cX9_layTried 1 = .ok (.iconst 0, 1) := by decide +kernel
theorem dX9_layTried_2 : decode cX9_layTried 2 = .ok (.sipush 1053, 3) := by decide +kernel
theorem dX9_layTried_5 : decode cX9_layTried 5 = .ok (.invokevirtual 146, 3) := by decide +kernel
theorem dX9_layTried_8 : decode cX9_layTried 8 = .ok (.return_, 1) := by decide +kernel
theorem dX9_restsIn_0 : decode cX9_restsIn 0 = .ok (.aload_n 0, 1) := by decide +kernel
theorem dX9_restsIn_1 : decode cX9_restsIn 1 = .ok (.getfield 7, 3) := by decide +kernel
theorem dX9_restsIn_4 : decode cX9_restsIn 4 = .ok (.sipush 1060, 3) := by decide +kernel
theorem dX9_restsIn_7 : decode cX9_restsIn 7 = .ok (.aload_n 0, 1) := by decide +kernel
theorem dX9_restsIn_8 : decode cX9_restsIn 8 = .ok (.getfield 7, 3) := by decide +kernel
theorem dX9_restsIn_11 : decode cX9_restsIn 11 = .ok (.bipush 7, 2) := by decide +kernel
theorem dX9_restsIn_13 : decode cX9_restsIn 13 = .ok (.iaload, 1) := by decide +kernel
theorem dX9_restsIn_14 : decode cX9_restsIn 14 = .ok (.iload_n 1, 1) := by decide +kernel
theorem dX9_restsIn_15 : decode cX9_restsIn 15 = .ok (.iadd, 1) := by decide +kernel
theorem dX9_restsIn_16 : decode cX9_restsIn 16 = .ok (.iastore, 1) := by decide +kernel
theorem dX9_restsIn_17 : decode cX9_restsIn 17 = .ok (.aload_n 0, 1) := by decide +kernel
theorem dX9_restsIn_18 : decode cX9_restsIn 18 = .ok (.sipush 1053, 3) := by decide +kernel
theorem dX9_restsIn_21 : decode cX9_restsIn 21 = .ok (.invokevirtual 182, 3) := by decide +kernel
theorem dX9_restsIn_24 : decode cX9_restsIn 24 = .ok (.ireturn, 1) := by decide +kernel
theorem dX9_noYears_0 : decode cX9_noYears 0 = .ok (.aload_n 0, 1) := by decide +kernel
theorem dX9_noYears_1 : decode cX9_noYears 1 = .ok (.getfield 150, 3) := by decide +kernel
theorem dX9_noYears_4 : decode cX9_noYears 4 = .ok (.ifCond .ne 8, 3) := by decide +kernel
theorem dX9_noYears_7 : decode cX9_noYears 7 = .ok (.ldc 157, 2) := by decide +kernel
theorem dX9_noYears_9 : decode cX9_noYears 9 = .ok (.goto 21, 3) := by decide +kernel
theorem dX9_noYears_12 : decode cX9_noYears 12 = .ok (.iload_n 1, 1) := by decide +kernel
theorem dX9_noYears_13 : decode cX9_noYears 13 = .ok (.i2l, 1) := by decide +kernel
theorem dX9_noYears_14 : decode cX9_noYears 14 = .ok (.lconst 0, 1) := by decide +kernel
theorem dX9_noYears_15 : decode cX9_noYears 15 = .ok (.ldc2_w 203, 3) := by decide +kernel
theorem dX9_noYears_18 : decode cX9_noYears 18 = .ok (.invokestatic 60, 3) := by decide +kernel
theorem dX9_noYears_21 : decode cX9_noYears 21 = .ok (.ifCond .eq 7, 3) := by decide +kernel
theorem dX9_noYears_24 : decode cX9_noYears 24 = .ok (.iconst 0, 1) := by decide +kernel
theorem dX9_noYears_25 : decode cX9_noYears 25 = .ok (.goto 5, 3) := by decide +kernel
theorem dX9_noYears_28 : decode cX9_noYears 28 = .ok (.ldc 70, 2) := by decide +kernel
theorem dX9_noYears_30 : decode cX9_noYears 30 = .ok (.ireturn, 1) := by decide +kernel
theorem dX9_rests_0 : decode cX9_rests 0 = .ok (.aload_n 0, 1) := by decide +kernel
theorem dX9_rests_1 : decode cX9_rests 1 = .ok (.iload_n 1, 1) := by decide +kernel
theorem dX9_rests_2 : decode cX9_rests 2 = .ok (.invokevirtual 205, 3) := by decide +kernel
theorem dX9_rests_5 : decode cX9_rests 5 = .ok (.istore_n 2, 1) := by decide +kernel
theorem dX9_rests_6 : decode cX9_rests 6 = .ok (.iload_n 2, 1) := by decide +kernel
theorem dX9_rests_7 : decode cX9_rests 7 = .ok (.ifCond .eq 5, 3) := by decide +kernel
theorem dX9_rests_10 : decode cX9_rests 10 = .ok (.iload_n 2, 1) := by decide +kernel
theorem dX9_rests_11 : decode cX9_rests 11 = .ok (.ireturn, 1) := by decide +kernel
theorem dX9_rests_12 : decode cX9_rests 12 = .ok (.aload_n 0, 1) := by decide +kernel
theorem dX9_rests_13 : decode cX9_rests 13 = .ok (.invokevirtual 208, 3) := by decide +kernel
theorem dX9_rests_16 : decode cX9_rests 16 = .ok (.aload_n 0, 1) := by decide +kernel
theorem dX9_rests_17 : decode cX9_rests 17 = .ok (.iload_n 1, 1) := by decide +kernel
theorem dX9_rests_18 : decode cX9_rests 18 = .ok (.invokevirtual 211, 3) := by decide +kernel
theorem dX9_rests_21 : decode cX9_rests 21 = .ok (.ireturn, 1) := by decide +kernel
theorem dX9_line_0 : decode cX9_line 0 = .ok (.aload_n 0, 1) := by decide +kernel
theorem dX9_line_1 : decode cX9_line 1 = .ok (.iload_n 2, 1) := by decide +kernel
theorem dX9_line_2 : decode cX9_line 2 = .ok (.invokevirtual 205, 3) := by decide +kernel
theorem dX9_line_5 : decode cX9_line 5 = .ok (.istore_n 3, 1) := by decide +kernel
theorem dX9_line_6 : decode cX9_line 6 = .ok (.iload_n 3, 1) := by decide +kernel
theorem dX9_line_7 : decode cX9_line 7 = .ok (.ifCond .ne 19, 3) := by decide +kernel
theorem dX9_line_10 : decode cX9_line 10 = .ok (.iload_n 1, 1) := by decide +kernel
end
section
theorem dX9_line_11 : decode cX9_line 11 = .ok (.i2l, 1) := by decide +kernel
theorem dX9_line_12 : decode cX9_line 12 = .ok (.lconst 0, 1) := by decide +kernel
theorem dX9_line_13 : decode cX9_line 13 = .ok (.aload_n 0, 1) := by decide +kernel
theorem dX9_line_14 : decode cX9_line 14 = .ok (.getfield 7, 3) := by decide +kernel
theorem dX9_line_17 : decode cX9_line 17 = .ok (.iconst 0, 1) := by decide +kernel
theorem dX9_line_18 : decode cX9_line 18 = .ok (.iaload, 1) := by decide +kernel
theorem dX9_line_19 : decode cX9_line 19 = .ok (.i2l, 1) := by decide +kernel
theorem dX9_line_20 : decode cX9_line 20 = .ok (.invokestatic 60, 3) := by decide +kernel
theorem dX9_line_23 : decode cX9_line 23 = .ok (.ifCond .ne 14, 3) := by decide +kernel
theorem dX9_line_26 : decode cX9_line 26 = .ok (.iload_n 3, 1) := by decide +kernel
theorem dX9_line_27 : decode cX9_line 27 = .ok (.ifCond .eq 7, 3) := by decide +kernel
theorem dX9_line_30 : decode cX9_line 30 = .ok (.iload_n 3, 1) := by decide +kernel
theorem dX9_line_31 : decode cX9_line 31 = .ok (.goto 5, 3) := by decide +kernel
theorem dX9_line_34 : decode cX9_line 34 = .ok (.ldc 70, 2) := by decide +kernel
theorem dX9_line_36 : decode cX9_line 36 = .ok (.ireturn, 1) := by decide +kernel
theorem dX9_line_37 : decode cX9_line 37 = .ok (.aload_n 0, 1) := by decide +kernel
theorem dX9_line_38 : decode cX9_line 38 = .ok (.invokevirtual 208, 3) := by decide +kernel
theorem dX9_line_41 : decode cX9_line 41 = .ok (.aload_n 0, 1) := by decide +kernel
theorem dX9_line_42 : decode cX9_line 42 = .ok (.iload_n 2, 1) := by decide +kernel
theorem dX9_line_43 : decode cX9_line 43 = .ok (.invokevirtual 211, 3) := by decide +kernel
theorem dX9_line_46 : decode cX9_line 46 = .ok (.pop, 1) := by decide +kernel
theorem dX9_line_47 : decode cX9_line 47 = .ok (.aload_n 0, 1) := by decide +kernel
theorem dX9_line_48 : decode cX9_line 48 = .ok (.getfield 41, 3) := by decide +kernel
theorem dX9_line_51 : decode cX9_line 51 = .ok (.iload_n 1, 1) := by decide +kernel
theorem dX9_line_52 : decode cX9_line 52 = .ok (.iaload, 1) := by decide +kernel
theorem dX9_line_53 : decode cX9_line 53 = .ok (.ifCond .ge 8, 3) := by decide +kernel
theorem dX9_line_56 : decode cX9_line 56 = .ok (.ldc 128, 2) := by decide +kernel
theorem dX9_line_58 : decode cX9_line 58 = .ok (.goto 9, 3) := by decide +kernel
theorem dX9_line_61 : decode cX9_line 61 = .ok (.aload_n 0, 1) := by decide +kernel
theorem dX9_line_62 : decode cX9_line 62 = .ok (.getfield 41, 3) := by decide +kernel
theorem dX9_line_65 : decode cX9_line 65 = .ok (.iload_n 1, 1) := by decide +kernel
theorem dX9_line_66 : decode cX9_line 66 = .ok (.iaload, 1) := by decide +kernel
theorem dX9_line_67 : decode cX9_line 67 = .ok (.ireturn, 1) := by decide +kernel
theorem dX9_left_0 : decode cX9_left 0 = .ok (.aload_n 0, 1) := by decide +kernel
theorem dX9_left_1 : decode cX9_left 1 = .ok (.iload_n 1, 1) := by decide +kernel
theorem dX9_left_2 : decode cX9_left 2 = .ok (.invokevirtual 205, 3) := by decide +kernel
theorem dX9_left_5 : decode cX9_left 5 = .ok (.istore_n 2, 1) := by decide +kernel
theorem dX9_left_6 : decode cX9_left 6 = .ok (.iload_n 2, 1) := by decide +kernel
theorem dX9_left_7 : decode cX9_left 7 = .ok (.ifCond .eq 5, 3) := by decide +kernel
theorem dX9_left_10 : decode cX9_left 10 = .ok (.iload_n 2, 1) := by decide +kernel
theorem dX9_left_11 : decode cX9_left 11 = .ok (.ireturn, 1) := by decide +kernel
theorem dX9_left_12 : decode cX9_left 12 = .ok (.aload_n 0, 1) := by decide +kernel
theorem dX9_left_13 : decode cX9_left 13 = .ok (.invokevirtual 208, 3) := by decide +kernel
theorem dX9_left_16 : decode cX9_left 16 = .ok (.aload_n 0, 1) := by decide +kernel
theorem dX9_left_17 : decode cX9_left 17 = .ok (.iload_n 1, 1) := by decide +kernel
theorem dX9_left_18 : decode cX9_left 18 = .ok (.invokevirtual 211, 3) := by decide +kernel
theorem dX9_left_21 : decode cX9_left 21 = .ok (.pop, 1) := by decide +kernel
theorem dX9_left_22 : decode cX9_left 22 = .ok (.aload_n 0, 1) := by decide +kernel
theorem dX9_left_23 : decode cX9_left 23 = .ok (.getfield 161, 3) := by decide +kernel
theorem dX9_left_26 : decode cX9_left 26 = .ok (.ireturn, 1) := by decide +kernel
theorem dX9_next_0 : decode cX9_next 0 = .ok (.aload_n 0, 1) := by decide +kernel
theorem dX9_next_1 : decode cX9_next 1 = .ok (.iload_n 1, 1) := by decide +kernel
theorem dX9_next_2 : decode cX9_next 2 = .ok (.invokevirtual 193, 3) := by decide +kernel
theorem dX9_next_5 : decode cX9_next 5 = .ok (.ifCond .ne 6, 3) := by decide +kernel
theorem dX9_next_8 : decode cX9_next 8 = .ok (.ldc 70, 2) := by decide +kernel
theorem dX9_next_10 : decode cX9_next 10 = .ok (.ireturn, 1) := by decide +kernel
theorem dX9_next_11 : decode cX9_next 11 = .ok (.aload_n 0, 1) := by decide +kernel
theorem dX9_next_12 : decode cX9_next 12 = .ok (.invokevirtual 208, 3) := by decide +kernel
theorem dX9_next_15 : decode cX9_next 15 = .ok (.iconst 0, 1) := by decide +kernel
theorem dX9_next_16 : decode cX9_next 16 = .ok (.istore_n 2, 1) := by decide +kernel
theorem dX9_next_17 : decode cX9_next 17 = .ok (.iload_n 2, 1) := by decide +kernel
theorem dX9_next_18 : decode cX9_next 18 = .ok (.bipush 61, 2) := by decide +kernel
theorem dX9_next_20 : decode cX9_next 20 = .ok (.if_icmp .ge 20, 3) := by decide +kernel
theorem dX9_next_23 : decode cX9_next 23 = .ok (.aload_n 0, 1) := by decide +kernel
theorem dX9_next_24 : decode cX9_next 24 = .ok (.iload_n 2, 1) := by decide +kernel
theorem dX9_next_25 : decode cX9_next 25 = .ok (.invokevirtual 211, 3) := by decide +kernel
theorem dX9_next_28 : decode cX9_next 28 = .ok (.iload_n 1, 1) := by decide +kernel
theorem dX9_next_29 : decode cX9_next 29 = .ok (.if_icmp .ne 5, 3) := by decide +kernel
theorem dX9_next_32 : decode cX9_next 32 = .ok (.iload_n 2, 1) := by decide +kernel
theorem dX9_next_33 : decode cX9_next 33 = .ok (.ireturn, 1) := by decide +kernel
theorem dX9_next_34 : decode cX9_next 34 = .ok (.iinc 2 1, 3) := by decide +kernel
theorem dX9_next_37 : decode cX9_next 37 = .ok (.goto (-20), 3) := by decide +kernel
theorem dX9_next_40 : decode cX9_next 40 = .ok (.ldc 128, 2) := by decide +kernel
theorem dX9_next_42 : decode cX9_next 42 = .ok (.ireturn, 1) := by decide +kernel
theorem dX9_oftenTried_0 : decode cX9_oftenTried 0 = .ok (.iconst 0, 1) := by decide +kernel
theorem dX9_oftenTried_1 : decode cX9_oftenTried 1 = .ok (.istore_n 3, 1) := by decide +kernel
theorem dX9_oftenTried_2 : decode cX9_oftenTried 2 = .ok (.iconst 0, 1) := by decide +kernel
theorem dX9_oftenTried_3 : decode cX9_oftenTried 3 = .ok (.istore 4, 2) := by decide +kernel
theorem dX9_oftenTried_5 : decode cX9_oftenTried 5 = .ok (.iload 4, 2) := by decide +kernel
theorem dX9_oftenTried_7 : decode cX9_oftenTried 7 = .ok (.iload_n 2, 1) := by decide +kernel
theorem dX9_oftenTried_8 : decode cX9_oftenTried 8 = .ok (.if_icmp .ge 27, 3) := by decide +kernel
theorem dX9_oftenTried_11 : decode cX9_oftenTried 11 = .ok (.iload_n 3, 1) := by decide +kernel
theorem dX9_oftenTried_12 : decode cX9_oftenTried 12 = .ok (.aload_n 0, 1) := by decide +kernel
theorem dX9_oftenTried_13 : decode cX9_oftenTried 13 = .ok (.iload 4, 2) := by decide +kernel
theorem dX9_oftenTried_15 : decode cX9_oftenTried 15 = .ok (.invokevirtual 211, 3) := by decide +kernel
theorem dX9_oftenTried_18 : decode cX9_oftenTried 18 = .ok (.iload_n 1, 1) := by decide +kernel
theorem dX9_oftenTried_19 : decode cX9_oftenTried 19 = .ok (.if_icmp .ne 7, 3) := by decide +kernel
theorem dX9_oftenTried_22 : decode cX9_oftenTried 22 = .ok (.iconst 1, 1) := by decide +kernel
theorem dX9_oftenTried_23 : decode cX9_oftenTried 23 = .ok (.goto 4, 3) := by decide +kernel
theorem dX9_oftenTried_26 : decode cX9_oftenTried 26 = .ok (.iconst 0, 1) := by decide +kernel
theorem dX9_oftenTried_27 : decode cX9_oftenTried 27 = .ok (.iadd, 1) := by decide +kernel
theorem dX9_oftenTried_28 : decode cX9_oftenTried 28 = .ok (.istore_n 3, 1) := by decide +kernel
theorem dX9_oftenTried_29 : decode cX9_oftenTried 29 = .ok (.iinc 4 1, 3) := by decide +kernel
theorem dX9_oftenTried_32 : decode cX9_oftenTried 32 = .ok (.goto (-27), 3) := by decide +kernel
theorem dX9_oftenTried_35 : decode cX9_oftenTried 35 = .ok (.iload_n 3, 1) := by decide +kernel
theorem dX9_oftenTried_36 : decode cX9_oftenTried 36 = .ok (.ireturn, 1) := by decide +kernel
theorem dX9_often_0 : decode cX9_often 0 = .ok (.aload_n 0, 1) := by decide +kernel
theorem dX9_often_1 : decode cX9_often 1 = .ok (.iload_n 1, 1) := by decide +kernel
theorem dX9_often_2 : decode cX9_often 2 = .ok (.invokevirtual 193, 3) := by decide +kernel
theorem dX9_often_5 : decode cX9_often 5 = .ok (.ifCond .eq 15, 3) := by decide +kernel
theorem dX9_often_8 : decode cX9_often 8 = .ok (.iload_n 2, 1) := by decide +kernel
theorem dX9_often_9 : decode cX9_often 9 = .ok (.i2l, 1) := by decide +kernel
theorem dX9_often_10 : decode cX9_often 10 = .ok (.lconst 1, 1) := by decide +kernel
theorem dX9_often_11 : decode cX9_often 11 = .ok (.ldc2_w 203, 3) := by decide +kernel
theorem dX9_often_14 : decode cX9_often 14 = .ok (.invokestatic 60, 3) := by decide +kernel
theorem dX9_often_17 : decode cX9_often 17 = .ok (.ifCond .ne 6, 3) := by decide +kernel
theorem dX9_often_20 : decode cX9_often 20 = .ok (.ldc 70, 2) := by decide +kernel
theorem dX9_often_22 : decode cX9_often 22 = .ok (.ireturn, 1) := by decide +kernel
theorem dX9_often_23 : decode cX9_often 23 = .ok (.aload_n 0, 1) := by decide +kernel
theorem dX9_often_24 : decode cX9_often 24 = .ok (.invokevirtual 208, 3) := by decide +kernel
theorem dX9_often_27 : decode cX9_often 27 = .ok (.aload_n 0, 1) := by decide +kernel
theorem dX9_often_28 : decode cX9_often 28 = .ok (.iload_n 1, 1) := by decide +kernel
theorem dX9_often_29 : decode cX9_often 29 = .ok (.iload_n 2, 1) := by decide +kernel
theorem dX9_often_30 : decode cX9_often 30 = .ok (.invokevirtual 214, 3) := by decide +kernel
theorem dX9_often_33 : decode cX9_often 33 = .ok (.ireturn, 1) := by decide +kernel
theorem dX9_restsOtherwise_0 : decode cX9_restsOtherwise 0 = .ok (.aload_n 0, 1) := by decide +kernel
theorem dX9_restsOtherwise_1 : decode cX9_restsOtherwise 1 = .ok (.invokevirtual 208, 3) := by decide +kernel
theorem dX9_restsOtherwise_4 : decode cX9_restsOtherwise 4 = .ok (.aload_n 0, 1) := by decide +kernel
theorem dX9_restsOtherwise_5 : decode cX9_restsOtherwise 5 = .ok (.getfield 7, 3) := by decide +kernel
theorem dX9_restsOtherwise_8 : decode cX9_restsOtherwise 8 = .ok (.sipush 1061, 3) := by decide +kernel
theorem dX9_restsOtherwise_11 : decode cX9_restsOtherwise 11 = .ok (.aload_n 0, 1) := by decide +kernel
theorem dX9_restsOtherwise_12 : decode cX9_restsOtherwise 12 = .ok (.getfield 7, 3) := by decide +kernel
theorem dX9_restsOtherwise_15 : decode cX9_restsOtherwise 15 = .ok (.bipush 8, 2) := by decide +kernel
theorem dX9_restsOtherwise_17 : decode cX9_restsOtherwise 17 = .ok (.iaload, 1) := by decide +kernel
theorem dX9_restsOtherwise_18 : decode cX9_restsOtherwise 18 = .ok (.iload_n 1, 1) := by decide +kernel
theorem dX9_restsOtherwise_19 : decode cX9_restsOtherwise 19 = .ok (.ixor, 1) := by decide +kernel
theorem dX9_restsOtherwise_20 : decode cX9_restsOtherwise 20 = .ok (.iastore, 1) := by decide +kernel
theorem dX9_restsOtherwise_21 : decode cX9_restsOtherwise 21 = .ok (.aload_n 0, 1) := by decide +kernel
theorem dX9_restsOtherwise_22 : decode cX9_restsOtherwise 22 = .ok (.iload_n 2, 1) := by decide +kernel
theorem dX9_restsOtherwise_23 : decode cX9_restsOtherwise 23 = .ok (.invokevirtual 211, 3) := by decide +kernel
theorem dX9_restsOtherwise_26 : decode cX9_restsOtherwise 26 = .ok (.ireturn, 1) := by decide +kernel
theorem dX9_fewest_0 : decode cX9_fewest 0 = .ok (.ldc 128, 2) := by decide +kernel
theorem dX9_fewest_2 : decode cX9_fewest 2 = .ok (.istore 4, 2) := by decide +kernel
theorem dX9_fewest_4 : decode cX9_fewest 4 = .ok (.iconst 0, 1) := by decide +kernel
theorem dX9_fewest_5 : decode cX9_fewest 5 = .ok (.istore 5, 2) := by decide +kernel
theorem dX9_fewest_7 : decode cX9_fewest 7 = .ok (.iload 5, 2) := by decide +kernel
theorem dX9_fewest_9 : decode cX9_fewest 9 = .ok (.iconst 1, 1) := by decide +kernel
theorem dX9_fewest_10 : decode cX9_fewest 10 = .ok (.aload_n 0, 1) := by decide +kernel
theorem dX9_fewest_11 : decode cX9_fewest 11 = .ok (.getfield 7, 3) := by decide +kernel
theorem dX9_fewest_14 : decode cX9_fewest 14 = .ok (.iconst 1, 1) := by decide +kernel
theorem dX9_fewest_15 : decode cX9_fewest 15 = .ok (.iaload, 1) := by decide +kernel
theorem dX9_fewest_16 : decode cX9_fewest 16 = .ok (.ishl, 1) := by decide +kernel
theorem dX9_fewest_17 : decode cX9_fewest 17 = .ok (.if_icmp .ge 84, 3) := by decide +kernel
theorem dX9_fewest_20 : decode cX9_fewest 20 = .ok (.aload_n 0, 1) := by decide +kernel
theorem dX9_fewest_21 : decode cX9_fewest 21 = .ok (.iload 5, 2) := by decide +kernel
theorem dX9_fewest_23 : decode cX9_fewest 23 = .ok (.iload_n 3, 1) := by decide +kernel
theorem dX9_fewest_24 : decode cX9_fewest 24 = .ok (.invokevirtual 217, 3) := by decide +kernel
theorem dX9_fewest_27 : decode cX9_fewest 27 = .ok (.istore 6, 2) := by decide +kernel
theorem dX9_fewest_29 : decode cX9_fewest 29 = .ok (.iload 6, 2) := by decide +kernel
theorem dX9_fewest_31 : decode cX9_fewest 31 = .ok (.ldc 128, 2) := by decide +kernel
theorem dX9_fewest_33 : decode cX9_fewest 33 = .ok (.if_icmp .eq 16, 3) := by decide +kernel
theorem dX9_fewest_36 : decode cX9_fewest 36 = .ok (.iload_n 1, 1) := by decide +kernel
theorem dX9_fewest_37 : decode cX9_fewest 37 = .ok (.iload 6, 2) := by decide +kernel
theorem dX9_fewest_39 : decode cX9_fewest 39 = .ok (.invokestatic 158, 3) := by decide +kernel
theorem dX9_fewest_42 : decode cX9_fewest 42 = .ok (.ifCond .eq 7, 3) := by decide +kernel
theorem dX9_fewest_45 : decode cX9_fewest 45 = .ok (.iconst 1, 1) := by decide +kernel
theorem dX9_fewest_46 : decode cX9_fewest 46 = .ok (.goto 4, 3) := by decide +kernel
theorem dX9_fewest_49 : decode cX9_fewest 49 = .ok (.iconst 0, 1) := by decide +kernel
theorem dX9_fewest_50 : decode cX9_fewest 50 = .ok (.iload_n 2, 1) := by decide +kernel
theorem dX9_fewest_51 : decode cX9_fewest 51 = .ok (.if_icmp .ne 7, 3) := by decide +kernel
theorem dX9_fewest_54 : decode cX9_fewest 54 = .ok (.iconst 1, 1) := by decide +kernel
theorem dX9_fewest_55 : decode cX9_fewest 55 = .ok (.goto 4, 3) := by decide +kernel
theorem dX9_fewest_58 : decode cX9_fewest 58 = .ok (.iconst 0, 1) := by decide +kernel
theorem dX9_fewest_59 : decode cX9_fewest 59 = .ok (.istore 7, 2) := by decide +kernel
theorem dX9_fewest_61 : decode cX9_fewest 61 = .ok (.iload 7, 2) := by decide +kernel
theorem dX9_fewest_63 : decode cX9_fewest 63 = .ok (.ifCond .eq 28, 3) := by decide +kernel
theorem dX9_fewest_66 : decode cX9_fewest 66 = .ok (.iload 4, 2) := by decide +kernel
theorem dX9_fewest_68 : decode cX9_fewest 68 = .ok (.ldc 128, 2) := by decide +kernel
theorem dX9_fewest_70 : decode cX9_fewest 70 = .ok (.if_icmp .eq 16, 3) := by decide +kernel
theorem dX9_fewest_73 : decode cX9_fewest 73 = .ok (.iload 5, 2) := by decide +kernel
theorem dX9_fewest_75 : decode cX9_fewest 75 = .ok (.invokestatic 220, 3) := by decide +kernel
theorem dX9_fewest_78 : decode cX9_fewest 78 = .ok (.iload 4, 2) := by decide +kernel
theorem dX9_fewest_80 : decode cX9_fewest 80 = .ok (.invokestatic 220, 3) := by decide +kernel
theorem dX9_fewest_83 : decode cX9_fewest 83 = .ok (.if_icmp .ge 8, 3) := by decide +kernel
theorem dX9_fewest_86 : decode cX9_fewest 86 = .ok (.iload 5, 2) := by decide +kernel
theorem dX9_fewest_88 : decode cX9_fewest 88 = .ok (.goto 5, 3) := by decide +kernel
theorem dX9_fewest_91 : decode cX9_fewest 91 = .ok (.iload 4, 2) := by decide +kernel
theorem dX9_fewest_93 : decode cX9_fewest 93 = .ok (.istore 4, 2) := by decide +kernel
theorem dX9_fewest_95 : decode cX9_fewest 95 = .ok (.iinc 5 1, 3) := by decide +kernel
theorem dX9_fewest_98 : decode cX9_fewest 98 = .ok (.goto (-91), 3) := by decide +kernel
theorem dX9_fewest_101 : decode cX9_fewest 101 = .ok (.iload 4, 2) := by decide +kernel
theorem dX9_fewest_103 : decode cX9_fewest 103 = .ok (.ireturn, 1) := by decide +kernel
theorem dX9_aim_0 : decode cX9_aim 0 = .ok (.aload_n 0, 1) := by decide +kernel
theorem dX9_aim_1 : decode cX9_aim 1 = .ok (.iload_n 1, 1) := by decide +kernel
theorem dX9_aim_2 : decode cX9_aim 2 = .ok (.invokevirtual 193, 3) := by decide +kernel
theorem dX9_aim_5 : decode cX9_aim 5 = .ok (.ifCond .eq 25, 3) := by decide +kernel
theorem dX9_aim_8 : decode cX9_aim 8 = .ok (.iload_n 2, 1) := by decide +kernel
theorem dX9_aim_9 : decode cX9_aim 9 = .ok (.i2l, 1) := by decide +kernel
theorem dX9_aim_10 : decode cX9_aim 10 = .ok (.lconst 0, 1) := by decide +kernel
theorem dX9_aim_11 : decode cX9_aim 11 = .ok (.ldc2_w 203, 3) := by decide +kernel
theorem dX9_aim_14 : decode cX9_aim 14 = .ok (.invokestatic 60, 3) := by decide +kernel
theorem dX9_aim_17 : decode cX9_aim 17 = .ok (.ifCond .eq 13, 3) := by decide +kernel
theorem dX9_aim_20 : decode cX9_aim 20 = .ok (.iload_n 3, 1) := by decide +kernel
theorem dX9_aim_21 : decode cX9_aim 21 = .ok (.i2l, 1) := by decide +kernel
theorem dX9_aim_22 : decode cX9_aim 22 = .ok (.lconst 0, 1) := by decide +kernel
theorem dX9_aim_23 : decode cX9_aim 23 = .ok (.lconst 1, 1) := by decide +kernel
theorem dX9_aim_24 : decode cX9_aim 24 = .ok (.invokestatic 60, 3) := by decide +kernel
theorem dX9_aim_27 : decode cX9_aim 27 = .ok (.ifCond .ne 6, 3) := by decide +kernel
theorem dX9_aim_30 : decode cX9_aim 30 = .ok (.ldc 70, 2) := by decide +kernel
theorem dX9_aim_32 : decode cX9_aim 32 = .ok (.ireturn, 1) := by decide +kernel
theorem dX9_aim_33 : decode cX9_aim 33 = .ok (.aload_n 0, 1) := by decide +kernel
theorem dX9_aim_34 : decode cX9_aim 34 = .ok (.iconst 1, 1) := by decide +kernel
theorem dX9_aim_35 : decode cX9_aim 35 = .ok (.iload_n 1, 1) := by decide +kernel
theorem dX9_aim_36 : decode cX9_aim 36 = .ok (.ishl, 1) := by decide +kernel
theorem dX9_aim_37 : decode cX9_aim 37 = .ok (.iconst 1, 1) := by decide +kernel
theorem dX9_aim_38 : decode cX9_aim 38 = .ok (.iload_n 2, 1) := by decide +kernel
theorem dX9_aim_39 : decode cX9_aim 39 = .ok (.invokevirtual 223, 3) := by decide +kernel
theorem dX9_aim_42 : decode cX9_aim 42 = .ok (.istore 4, 2) := by decide +kernel
theorem dX9_aim_44 : decode cX9_aim 44 = .ok (.iload 4, 2) := by decide +kernel
theorem dX9_aim_46 : decode cX9_aim 46 = .ok (.ldc 128, 2) := by decide +kernel
theorem dX9_aim_48 : decode cX9_aim 48 = .ok (.if_icmp .eq 8, 3) := by decide +kernel
theorem dX9_aim_51 : decode cX9_aim 51 = .ok (.iload_n 3, 1) := by decide +kernel
theorem dX9_aim_52 : decode cX9_aim 52 = .ok (.iconst 1, 1) := by decide +kernel
theorem dX9_aim_53 : decode cX9_aim 53 = .ok (.if_icmp .ne 8, 3) := by decide +kernel
theorem dX9_aim_56 : decode cX9_aim 56 = .ok (.iload 4, 2) := by decide +kernel
theorem dX9_aim_58 : decode cX9_aim 58 = .ok (.goto 8, 3) := by decide +kernel
theorem dX9_aim_61 : decode cX9_aim 61 = .ok (.iload 4, 2) := by decide +kernel
theorem dX9_aim_63 : decode cX9_aim 63 = .ok (.invokestatic 220, 3) := by decide +kernel
theorem dX9_aim_66 : decode cX9_aim 66 = .ok (.ireturn, 1) := by decide +kernel
theorem dX9_shun_0 : decode cX9_shun 0 = .ok (.aload_n 0, 1) := by decide +kernel
theorem dX9_shun_1 : decode cX9_shun 1 = .ok (.getfield 150, 3) := by decide +kernel
theorem dX9_shun_4 : decode cX9_shun 4 = .ok (.ifCond .ne 6, 3) := by decide +kernel
theorem dX9_shun_7 : decode cX9_shun 7 = .ok (.ldc 157, 2) := by decide +kernel
theorem dX9_shun_9 : decode cX9_shun 9 = .ok (.ireturn, 1) := by decide +kernel
theorem dX9_shun_10 : decode cX9_shun 10 = .ok (.iload_n 1, 1) := by decide +kernel
theorem dX9_shun_11 : decode cX9_shun 11 = .ok (.i2l, 1) := by decide +kernel
theorem dX9_shun_12 : decode cX9_shun 12 = .ok (.lconst 0, 1) := by decide +kernel
theorem dX9_shun_13 : decode cX9_shun 13 = .ok (.iconst 1, 1) := by decide +kernel
theorem dX9_shun_14 : decode cX9_shun 14 = .ok (.aload_n 0, 1) := by decide +kernel
theorem dX9_shun_15 : decode cX9_shun 15 = .ok (.getfield 7, 3) := by decide +kernel
theorem dX9_shun_18 : decode cX9_shun 18 = .ok (.iconst 1, 1) := by decide +kernel
theorem dX9_shun_19 : decode cX9_shun 19 = .ok (.iaload, 1) := by decide +kernel
theorem dX9_shun_20 : decode cX9_shun 20 = .ok (.ishl, 1) := by decide +kernel
theorem dX9_shun_21 : decode cX9_shun 21 = .ok (.iconst 1, 1) := by decide +kernel
theorem dX9_shun_22 : decode cX9_shun 22 = .ok (.isub, 1) := by decide +kernel
theorem dX9_shun_23 : decode cX9_shun 23 = .ok (.i2l, 1) := by decide +kernel
theorem dX9_shun_24 : decode cX9_shun 24 = .ok (.invokestatic 60, 3) := by decide +kernel
theorem dX9_shun_27 : decode cX9_shun 27 = .ok (.ifCond .eq 25, 3) := by decide +kernel
theorem dX9_shun_30 : decode cX9_shun 30 = .ok (.iload_n 2, 1) := by decide +kernel
theorem dX9_shun_31 : decode cX9_shun 31 = .ok (.i2l, 1) := by decide +kernel
theorem dX9_shun_32 : decode cX9_shun 32 = .ok (.lconst 0, 1) := by decide +kernel
theorem dX9_shun_33 : decode cX9_shun 33 = .ok (.ldc2_w 203, 3) := by decide +kernel
theorem dX9_shun_36 : decode cX9_shun 36 = .ok (.invokestatic 60, 3) := by decide +kernel
theorem dX9_shun_39 : decode cX9_shun 39 = .ok (.ifCond .eq 13, 3) := by decide +kernel
theorem dX9_shun_42 : decode cX9_shun 42 = .ok (.iload_n 3, 1) := by decide +kernel
theorem dX9_shun_43 : decode cX9_shun 43 = .ok (.i2l, 1) := by decide +kernel
theorem dX9_shun_44 : decode cX9_shun 44 = .ok (.lconst 0, 1) := by decide +kernel
theorem dX9_shun_45 : decode cX9_shun 45 = .ok (.lconst 1, 1) := by decide +kernel
theorem dX9_shun_46 : decode cX9_shun 46 = .ok (.invokestatic 60, 3) := by decide +kernel
theorem dX9_shun_49 : decode cX9_shun 49 = .ok (.ifCond .ne 6, 3) := by decide +kernel
theorem dX9_shun_52 : decode cX9_shun 52 = .ok (.ldc 70, 2) := by decide +kernel
theorem dX9_shun_54 : decode cX9_shun 54 = .ok (.ireturn, 1) := by decide +kernel
theorem dX9_shun_55 : decode cX9_shun 55 = .ok (.aload_n 0, 1) := by decide +kernel
theorem dX9_shun_56 : decode cX9_shun 56 = .ok (.iload_n 1, 1) := by decide +kernel
theorem dX9_shun_57 : decode cX9_shun 57 = .ok (.iconst 0, 1) := by decide +kernel
theorem dX9_shun_58 : decode cX9_shun 58 = .ok (.iload_n 2, 1) := by decide +kernel
theorem dX9_shun_59 : decode cX9_shun 59 = .ok (.invokevirtual 223, 3) := by decide +kernel
theorem dX9_shun_62 : decode cX9_shun 62 = .ok (.istore 4, 2) := by decide +kernel
theorem dX9_shun_64 : decode cX9_shun 64 = .ok (.iload 4, 2) := by decide +kernel
theorem dX9_shun_66 : decode cX9_shun 66 = .ok (.ldc 128, 2) := by decide +kernel
theorem dX9_shun_68 : decode cX9_shun 68 = .ok (.if_icmp .eq 8, 3) := by decide +kernel
theorem dX9_shun_71 : decode cX9_shun 71 = .ok (.iload_n 3, 1) := by decide +kernel
theorem dX9_shun_72 : decode cX9_shun 72 = .ok (.iconst 1, 1) := by decide +kernel
theorem dX9_shun_73 : decode cX9_shun 73 = .ok (.if_icmp .ne 8, 3) := by decide +kernel
theorem dX9_shun_76 : decode cX9_shun 76 = .ok (.iload 4, 2) := by decide +kernel
theorem dX9_shun_78 : decode cX9_shun 78 = .ok (.goto 8, 3) := by decide +kernel
theorem dX9_shun_81 : decode cX9_shun 81 = .ok (.iload 4, 2) := by decide +kernel
theorem dX9_shun_83 : decode cX9_shun 83 = .ok (.invokestatic 220, 3) := by decide +kernel
theorem dX9_shun_86 : decode cX9_shun 86 = .ok (.ireturn, 1) := by decide +kernel
theorem dX9_site_0 : decode cX9_site 0 = .ok (.aload_n 0, 1) := by decide +kernel
theorem dX9_site_1 : decode cX9_site 1 = .ok (.iload_n 1, 1) := by decide +kernel
theorem dX9_site_2 : decode cX9_site 2 = .ok (.invokevirtual 193, 3) := by decide +kernel
theorem dX9_site_5 : decode cX9_site 5 = .ok (.ifCond .eq 27, 3) := by decide +kernel
theorem dX9_site_8 : decode cX9_site 8 = .ok (.iload_n 2, 1) := by decide +kernel
theorem dX9_site_9 : decode cX9_site 9 = .ok (.i2l, 1) := by decide +kernel
theorem dX9_site_10 : decode cX9_site 10 = .ok (.lconst 1, 1) := by decide +kernel
theorem dX9_site_11 : decode cX9_site 11 = .ok (.ldc2_w 227, 3) := by decide +kernel
theorem dX9_site_14 : decode cX9_site 14 = .ok (.invokestatic 60, 3) := by decide +kernel
theorem dX9_site_17 : decode cX9_site 17 = .ok (.ifCond .eq 15, 3) := by decide +kernel
theorem dX9_site_20 : decode cX9_site 20 = .ok (.iload_n 3, 1) := by decide +kernel
theorem dX9_site_21 : decode cX9_site 21 = .ok (.i2l, 1) := by decide +kernel
theorem dX9_site_22 : decode cX9_site 22 = .ok (.lconst 0, 1) := by decide +kernel
theorem dX9_site_23 : decode cX9_site 23 = .ok (.ldc2_w 68, 3) := by decide +kernel
theorem dX9_site_26 : decode cX9_site 26 = .ok (.invokestatic 60, 3) := by decide +kernel
theorem dX9_site_29 : decode cX9_site 29 = .ok (.ifCond .ne 6, 3) := by decide +kernel
theorem dX9_site_32 : decode cX9_site 32 = .ok (.ldc 70, 2) := by decide +kernel
theorem dX9_site_34 : decode cX9_site 34 = .ok (.ireturn, 1) := by decide +kernel
theorem dX9_site_35 : decode cX9_site 35 = .ok (.iconst (-1), 1) := by decide +kernel
theorem dX9_site_36 : decode cX9_site 36 = .ok (.istore 4, 2) := by decide +kernel
theorem dX9_site_38 : decode cX9_site 38 = .ok (.iconst 0, 1) := by decide +kernel
theorem dX9_site_39 : decode cX9_site 39 = .ok (.istore 5, 2) := by decide +kernel
theorem dX9_site_41 : decode cX9_site 41 = .ok (.iconst 0, 1) := by decide +kernel
theorem dX9_site_42 : decode cX9_site 42 = .ok (.istore 6, 2) := by decide +kernel
theorem dX9_site_44 : decode cX9_site 44 = .ok (.aload_n 0, 1) := by decide +kernel
theorem dX9_site_45 : decode cX9_site 45 = .ok (.invokevirtual 208, 3) := by decide +kernel
theorem dX9_site_48 : decode cX9_site 48 = .ok (.iconst 1, 1) := by decide +kernel
theorem dX9_site_49 : decode cX9_site 49 = .ok (.istore 7, 2) := by decide +kernel
theorem dX9_site_51 : decode cX9_site 51 = .ok (.iload 7, 2) := by decide +kernel
theorem dX9_site_53 : decode cX9_site 53 = .ok (.aload_n 0, 1) := by decide +kernel
theorem dX9_site_54 : decode cX9_site 54 = .ok (.getfield 7, 3) := by decide +kernel
theorem dX9_site_57 : decode cX9_site 57 = .ok (.iconst 0, 1) := by decide +kernel
theorem dX9_site_58 : decode cX9_site 58 = .ok (.iaload, 1) := by decide +kernel
theorem dX9_site_59 : decode cX9_site 59 = .ok (.if_icmp .gt 104, 3) := by decide +kernel
theorem dX9_site_62 : decode cX9_site 62 = .ok (.iconst 0, 1) := by decide +kernel
theorem dX9_site_63 : decode cX9_site 63 = .ok (.istore 8, 2) := by decide +kernel
theorem dX9_site_65 : decode cX9_site 65 = .ok (.iload 8, 2) := by decide +kernel
theorem dX9_site_67 : decode cX9_site 67 = .ok (.bipush 7, 2) := by decide +kernel
theorem dX9_site_69 : decode cX9_site 69 = .ok (.if_icmp .ge 88, 3) := by decide +kernel
theorem dX9_site_72 : decode cX9_site 72 = .ok (.aload_n 0, 1) := by decide +kernel
theorem dX9_site_73 : decode cX9_site 73 = .ok (.iconst 0, 1) := by decide +kernel
theorem dX9_site_74 : decode cX9_site 74 = .ok (.iload 7, 2) := by decide +kernel
theorem dX9_site_76 : decode cX9_site 76 = .ok (.iload 8, 2) := by decide +kernel
theorem dX9_site_78 : decode cX9_site 78 = .ok (.invokevirtual 124, 3) := by decide +kernel
theorem dX9_site_81 : decode cX9_site 81 = .ok (.istore 9, 2) := by decide +kernel
theorem dX9_site_83 : decode cX9_site 83 = .ok (.aload_n 0, 1) := by decide +kernel
theorem dX9_site_84 : decode cX9_site 84 = .ok (.getfield 7, 3) := by decide +kernel
theorem dX9_site_87 : decode cX9_site 87 = .ok (.sipush 1068, 3) := by decide +kernel
theorem dX9_site_90 : decode cX9_site 90 = .ok (.iload_n 1, 1) := by decide +kernel
theorem dX9_site_91 : decode cX9_site 91 = .ok (.iadd, 1) := by decide +kernel
theorem dX9_site_92 : decode cX9_site 92 = .ok (.iload 7, 2) := by decide +kernel
theorem dX9_site_94 : decode cX9_site 94 = .ok (.iastore, 1) := by decide +kernel
theorem dX9_site_95 : decode cX9_site 95 = .ok (.aload_n 0, 1) := by decide +kernel
theorem dX9_site_96 : decode cX9_site 96 = .ok (.getfield 7, 3) := by decide +kernel
theorem dX9_site_99 : decode cX9_site 99 = .ok (.sipush 1074, 3) := by decide +kernel
theorem dX9_site_102 : decode cX9_site 102 = .ok (.iload_n 1, 1) := by decide +kernel
theorem dX9_site_103 : decode cX9_site 103 = .ok (.iadd, 1) := by decide +kernel
theorem dX9_site_104 : decode cX9_site 104 = .ok (.iload 8, 2) := by decide +kernel
theorem dX9_site_106 : decode cX9_site 106 = .ok (.iastore, 1) := by decide +kernel
theorem dX9_site_107 : decode cX9_site 107 = .ok (.iload 9, 2) := by decide +kernel
theorem dX9_site_109 : decode cX9_site 109 = .ok (.ldc 128, 2) := by decide +kernel
theorem dX9_site_111 : decode cX9_site 111 = .ok (.if_icmp .eq 9, 3) := by decide +kernel
theorem dX9_site_114 : decode cX9_site 114 = .ok (.iload 9, 2) := by decide +kernel
theorem dX9_site_116 : decode cX9_site 116 = .ok (.iload_n 1, 1) := by decide +kernel
theorem dX9_site_117 : decode cX9_site 117 = .ok (.if_icmp .ne 12, 3) := by decide +kernel
theorem dX9_site_120 : decode cX9_site 120 = .ok (.aload_n 0, 1) := by decide +kernel
theorem dX9_site_121 : decode cX9_site 121 = .ok (.iload_n 1, 1) := by decide +kernel
theorem dX9_site_122 : decode cX9_site 122 = .ok (.iload_n 2, 1) := by decide +kernel
theorem dX9_site_123 : decode cX9_site 123 = .ok (.invokevirtual 214, 3) := by decide +kernel
theorem dX9_site_126 : decode cX9_site 126 = .ok (.goto 4, 3) := by decide +kernel
theorem dX9_site_129 : decode cX9_site 129 = .ok (.iconst (-1), 1) := by decide +kernel
theorem dX9_site_130 : decode cX9_site 130 = .ok (.istore 10, 2) := by decide +kernel
theorem dX9_site_132 : decode cX9_site 132 = .ok (.iload 10, 2) := by decide +kernel
theorem dX9_site_134 : decode cX9_site 134 = .ok (.iload 4, 2) := by decide +kernel
theorem dX9_site_136 : decode cX9_site 136 = .ok (.if_icmp .le 15, 3) := by decide +kernel
theorem dX9_site_139 : decode cX9_site 139 = .ok (.iload 10, 2) := by decide +kernel
theorem dX9_site_141 : decode cX9_site 141 = .ok (.istore 4, 2) := by decide +kernel
theorem dX9_site_143 : decode cX9_site 143 = .ok (.iload 7, 2) := by decide +kernel
theorem dX9_site_145 : decode cX9_site 145 = .ok (.istore 5, 2) := by decide +kernel
theorem dX9_site_147 : decode cX9_site 147 = .ok (.iload 8, 2) := by decide +kernel
theorem dX9_site_149 : decode cX9_site 149 = .ok (.istore 6, 2) := by decide +kernel
theorem dX9_site_151 : decode cX9_site 151 = .ok (.iinc 8 1, 3) := by decide +kernel
theorem dX9_site_154 : decode cX9_site 154 = .ok (.goto (-89), 3) := by decide +kernel
theorem dX9_site_157 : decode cX9_site 157 = .ok (.iinc 7 1, 3) := by decide +kernel
theorem dX9_site_160 : decode cX9_site 160 = .ok (.goto (-109), 3) := by decide +kernel
theorem dX9_site_163 : decode cX9_site 163 = .ok (.iload_n 3, 1) := by decide +kernel
theorem dX9_site_164 : decode cX9_site 164 = .ok (.ifCond .ne 8, 3) := by decide +kernel
theorem dX9_site_167 : decode cX9_site 167 = .ok (.iload 5, 2) := by decide +kernel
theorem dX9_site_169 : decode cX9_site 169 = .ok (.goto 15, 3) := by decide +kernel
theorem dX9_site_172 : decode cX9_site 172 = .ok (.iload_n 3, 1) := by decide +kernel
theorem dX9_site_173 : decode cX9_site 173 = .ok (.iconst 1, 1) := by decide +kernel
theorem dX9_site_174 : decode cX9_site 174 = .ok (.if_icmp .ne 8, 3) := by decide +kernel
theorem dX9_site_177 : decode cX9_site 177 = .ok (.iload 6, 2) := by decide +kernel
theorem dX9_site_179 : decode cX9_site 179 = .ok (.goto 5, 3) := by decide +kernel
theorem dX9_site_182 : decode cX9_site 182 = .ok (.iload 4, 2) := by decide +kernel
theorem dX9_site_184 : decode cX9_site 184 = .ok (.ireturn, 1) := by decide +kernel
theorem dX9_sulksTried_0 : decode cX9_sulksTried 0 = .ok (.iconst 0, 1) := by decide +kernel
theorem dX9_sulksTried_1 : decode cX9_sulksTried 1 = .ok (.istore_n 1, 1) := by decide +kernel
theorem dX9_sulksTried_2 : decode cX9_sulksTried 2 = .ok (.aload_n 0, 1) := by decide +kernel
theorem dX9_sulksTried_3 : decode cX9_sulksTried 3 = .ok (.getfield 7, 3) := by decide +kernel
theorem dX9_sulksTried_6 : decode cX9_sulksTried 6 = .ok (.sipush 1061, 3) := by decide +kernel
theorem dX9_sulksTried_9 : decode cX9_sulksTried 9 = .ok (.iaload, 1) := by decide +kernel
theorem dX9_sulksTried_10 : decode cX9_sulksTried 10 = .ok (.istore_n 2, 1) := by decide +kernel
theorem dX9_sulksTried_11 : decode cX9_sulksTried 11 = .ok (.aload_n 0, 1) := by decide +kernel
theorem dX9_sulksTried_12 : decode cX9_sulksTried 12 = .ok (.sipush 1053, 3) := by decide +kernel
theorem dX9_sulksTried_15 : decode cX9_sulksTried 15 = .ok (.invokevirtual 182, 3) := by decide +kernel
theorem dX9_sulksTried_18 : decode cX9_sulksTried 18 = .ok (.istore_n 3, 1) := by decide +kernel
theorem dX9_sulksTried_19 : decode cX9_sulksTried 19 = .ok (.iconst 0, 1) := by decide +kernel
theorem dX9_sulksTried_20 : decode cX9_sulksTried 20 = .ok (.istore 4, 2) := by decide +kernel
theorem dX9_sulksTried_22 : decode cX9_sulksTried 22 = .ok (.iload 4, 2) := by decide +kernel
theorem dX9_sulksTried_24 : decode cX9_sulksTried 24 = .ok (.aload_n 0, 1) := by decide +kernel
theorem dX9_sulksTried_25 : decode cX9_sulksTried 25 = .ok (.getfield 7, 3) := by decide +kernel
theorem dX9_sulksTried_28 : decode cX9_sulksTried 28 = .ok (.iconst 1, 1) := by decide +kernel
theorem dX9_sulksTried_29 : decode cX9_sulksTried 29 = .ok (.iaload, 1) := by decide +kernel
theorem dX9_sulksTried_30 : decode cX9_sulksTried 30 = .ok (.if_icmp .ge 97, 3) := by decide +kernel
theorem dX9_sulksTried_33 : decode cX9_sulksTried 33 = .ok (.aload_n 0, 1) := by decide +kernel
theorem dX9_sulksTried_34 : decode cX9_sulksTried 34 = .ok (.getfield 7, 3) := by decide +kernel
theorem dX9_sulksTried_37 : decode cX9_sulksTried 37 = .ok (.sipush 1061, 3) := by decide +kernel
theorem dX9_sulksTried_40 : decode cX9_sulksTried 40 = .ok (.iload_n 2, 1) := by decide +kernel
theorem dX9_sulksTried_41 : decode cX9_sulksTried 41 = .ok (.iconst 1, 1) := by decide +kernel
theorem dX9_sulksTried_42 : decode cX9_sulksTried 42 = .ok (.iload 4, 2) := by decide +kernel
theorem dX9_sulksTried_44 : decode cX9_sulksTried 44 = .ok (.ishl, 1) := by decide +kernel
theorem dX9_sulksTried_45 : decode cX9_sulksTried 45 = .ok (.ixor, 1) := by decide +kernel
theorem dX9_sulksTried_46 : decode cX9_sulksTried 46 = .ok (.iastore, 1) := by decide +kernel
theorem dX9_sulksTried_47 : decode cX9_sulksTried 47 = .ok (.aload_n 0, 1) := by decide +kernel
theorem dX9_sulksTried_48 : decode cX9_sulksTried 48 = .ok (.sipush 1053, 3) := by decide +kernel
theorem dX9_sulksTried_51 : decode cX9_sulksTried 51 = .ok (.invokevirtual 182, 3) := by decide +kernel
theorem dX9_sulksTried_54 : decode cX9_sulksTried 54 = .ok (.iload 4, 2) := by decide +kernel
theorem dX9_sulksTried_56 : decode cX9_sulksTried 56 = .ok (.if_icmp .ne 7, 3) := by decide +kernel
theorem dX9_sulksTried_59 : decode cX9_sulksTried 59 = .ok (.iconst 1, 1) := by decide +kernel
theorem dX9_sulksTried_60 : decode cX9_sulksTried 60 = .ok (.goto 4, 3) := by decide +kernel
theorem dX9_sulksTried_63 : decode cX9_sulksTried 63 = .ok (.iconst 0, 1) := by decide +kernel
theorem dX9_sulksTried_64 : decode cX9_sulksTried 64 = .ok (.istore 5, 2) := by decide +kernel
theorem dX9_sulksTried_66 : decode cX9_sulksTried 66 = .ok (.iload_n 3, 1) := by decide +kernel
theorem dX9_sulksTried_67 : decode cX9_sulksTried 67 = .ok (.iload 4, 2) := by decide +kernel
theorem dX9_sulksTried_69 : decode cX9_sulksTried 69 = .ok (.if_icmp .ne 7, 3) := by decide +kernel
theorem dX9_sulksTried_72 : decode cX9_sulksTried 72 = .ok (.iconst 1, 1) := by decide +kernel
theorem dX9_sulksTried_73 : decode cX9_sulksTried 73 = .ok (.goto 4, 3) := by decide +kernel
theorem dX9_sulksTried_76 : decode cX9_sulksTried 76 = .ok (.iconst 0, 1) := by decide +kernel
theorem dX9_sulksTried_77 : decode cX9_sulksTried 77 = .ok (.istore 6, 2) := by decide +kernel
theorem dX9_sulksTried_79 : decode cX9_sulksTried 79 = .ok (.iload_n 1, 1) := by decide +kernel
theorem dX9_sulksTried_80 : decode cX9_sulksTried 80 = .ok (.iload 5, 2) := by decide +kernel
theorem dX9_sulksTried_82 : decode cX9_sulksTried 82 = .ok (.iload 6, 2) := by decide +kernel
theorem dX9_sulksTried_84 : decode cX9_sulksTried 84 = .ok (.if_icmp .eq 34, 3) := by decide +kernel
theorem dX9_sulksTried_87 : decode cX9_sulksTried 87 = .ok (.iload 5, 2) := by decide +kernel
theorem dX9_sulksTried_89 : decode cX9_sulksTried 89 = .ok (.aload_n 0, 1) := by decide +kernel
theorem dX9_sulksTried_90 : decode cX9_sulksTried 90 = .ok (.getfield 7, 3) := by decide +kernel
theorem dX9_sulksTried_93 : decode cX9_sulksTried 93 = .ok (.bipush 27, 2) := by decide +kernel
theorem dX9_sulksTried_95 : decode cX9_sulksTried 95 = .ok (.iload 4, 2) := by decide +kernel
theorem dX9_sulksTried_97 : decode cX9_sulksTried 97 = .ok (.iadd, 1) := by decide +kernel
theorem dX9_sulksTried_98 : decode cX9_sulksTried 98 = .ok (.iaload, 1) := by decide +kernel
theorem dX9_sulksTried_99 : decode cX9_sulksTried 99 = .ok (.iconst 1, 1) := by decide +kernel
theorem dX9_sulksTried_100 : decode cX9_sulksTried 100 = .ok (.if_icmp .ne 7, 3) := by decide +kernel
theorem dX9_sulksTried_103 : decode cX9_sulksTried 103 = .ok (.iconst 1, 1) := by decide +kernel
theorem dX9_sulksTried_104 : decode cX9_sulksTried 104 = .ok (.goto 4, 3) := by decide +kernel
theorem dX9_sulksTried_107 : decode cX9_sulksTried 107 = .ok (.iconst 0, 1) := by decide +kernel
theorem dX9_sulksTried_108 : decode cX9_sulksTried 108 = .ok (.if_icmp .ne 10, 3) := by decide +kernel
theorem dX9_sulksTried_111 : decode cX9_sulksTried 111 = .ok (.iconst 1, 1) := by decide +kernel
theorem dX9_sulksTried_112 : decode cX9_sulksTried 112 = .ok (.iload 4, 2) := by decide +kernel
theorem dX9_sulksTried_114 : decode cX9_sulksTried 114 = .ok (.ishl, 1) := by decide +kernel
theorem dX9_sulksTried_115 : decode cX9_sulksTried 115 = .ok (.goto 4, 3) := by decide +kernel
theorem dX9_sulksTried_118 : decode cX9_sulksTried 118 = .ok (.iconst 0, 1) := by decide +kernel
theorem dX9_sulksTried_119 : decode cX9_sulksTried 119 = .ok (.ior, 1) := by decide +kernel
theorem dX9_sulksTried_120 : decode cX9_sulksTried 120 = .ok (.istore_n 1, 1) := by decide +kernel
theorem dX9_sulksTried_121 : decode cX9_sulksTried 121 = .ok (.iinc 4 1, 3) := by decide +kernel
theorem dX9_sulksTried_124 : decode cX9_sulksTried 124 = .ok (.goto (-102), 3) := by decide +kernel
theorem dX9_sulksTried_127 : decode cX9_sulksTried 127 = .ok (.aload_n 0, 1) := by decide +kernel
theorem dX9_sulksTried_128 : decode cX9_sulksTried 128 = .ok (.getfield 7, 3) := by decide +kernel
theorem dX9_sulksTried_131 : decode cX9_sulksTried 131 = .ok (.sipush 1061, 3) := by decide +kernel
theorem dX9_sulksTried_134 : decode cX9_sulksTried 134 = .ok (.iload_n 2, 1) := by decide +kernel
theorem dX9_sulksTried_135 : decode cX9_sulksTried 135 = .ok (.iastore, 1) := by decide +kernel
theorem dX9_sulksTried_136 : decode cX9_sulksTried 136 = .ok (.iload_n 1, 1) := by decide +kernel
theorem dX9_sulksTried_137 : decode cX9_sulksTried 137 = .ok (.ireturn, 1) := by decide +kernel
theorem dX9_sulks_0 : decode cX9_sulks 0 = .ok (.aload_n 0, 1) := by decide +kernel
theorem dX9_sulks_1 : decode cX9_sulks 1 = .ok (.getfield 150, 3) := by decide +kernel
theorem dX9_sulks_4 : decode cX9_sulks 4 = .ok (.ifCond .ne 6, 3) := by decide +kernel
theorem dX9_sulks_7 : decode cX9_sulks 7 = .ok (.ldc 157, 2) := by decide +kernel
theorem dX9_sulks_9 : decode cX9_sulks 9 = .ok (.ireturn, 1) := by decide +kernel
theorem dX9_sulks_10 : decode cX9_sulks 10 = .ok (.aload_n 0, 1) := by decide +kernel
theorem dX9_sulks_11 : decode cX9_sulks 11 = .ok (.invokevirtual 208, 3) := by decide +kernel
theorem dX9_sulks_14 : decode cX9_sulks 14 = .ok (.aload_n 0, 1) := by decide +kernel
theorem dX9_sulks_15 : decode cX9_sulks 15 = .ok (.invokevirtual 229, 3) := by decide +kernel
theorem dX9_sulks_18 : decode cX9_sulks 18 = .ok (.ireturn, 1) := by decide +kernel
theorem dX9_peace_0 : decode cX9_peace 0 = .ok (.aload_n 0, 1) := by decide +kernel
theorem dX9_peace_1 : decode cX9_peace 1 = .ok (.getfield 150, 3) := by decide +kernel
theorem dX9_peace_4 : decode cX9_peace 4 = .ok (.ifCond .ne 6, 3) := by decide +kernel
theorem dX9_peace_7 : decode cX9_peace 7 = .ok (.ldc 157, 2) := by decide +kernel
theorem dX9_peace_9 : decode cX9_peace 9 = .ok (.ireturn, 1) := by decide +kernel
theorem dX9_peace_10 : decode cX9_peace 10 = .ok (.iload_n 1, 1) := by decide +kernel
theorem dX9_peace_11 : decode cX9_peace 11 = .ok (.i2l, 1) := by decide +kernel
theorem dX9_peace_12 : decode cX9_peace 12 = .ok (.lconst 0, 1) := by decide +kernel
theorem dX9_peace_13 : decode cX9_peace 13 = .ok (.lconst 1, 1) := by decide +kernel
theorem dX9_peace_14 : decode cX9_peace 14 = .ok (.invokestatic 60, 3) := by decide +kernel
theorem dX9_peace_17 : decode cX9_peace 17 = .ok (.ifCond .ne 6, 3) := by decide +kernel
theorem dX9_peace_20 : decode cX9_peace 20 = .ok (.ldc 70, 2) := by decide +kernel
theorem dX9_peace_22 : decode cX9_peace 22 = .ok (.ireturn, 1) := by decide +kernel
theorem dX9_peace_23 : decode cX9_peace 23 = .ok (.aload_n 0, 1) := by decide +kernel
theorem dX9_peace_24 : decode cX9_peace 24 = .ok (.invokevirtual 208, 3) := by decide +kernel
theorem dX9_peace_27 : decode cX9_peace 27 = .ok (.iconst 0, 1) := by decide +kernel
theorem dX9_peace_28 : decode cX9_peace 28 = .ok (.istore_n 2, 1) := by decide +kernel
theorem dX9_peace_29 : decode cX9_peace 29 = .ok (.iload_n 2, 1) := by decide +kernel
theorem dX9_peace_30 : decode cX9_peace 30 = .ok (.bipush 41, 2) := by decide +kernel
theorem dX9_peace_32 : decode cX9_peace 32 = .ok (.if_icmp .ge 50, 3) := by decide +kernel
theorem dX9_peace_35 : decode cX9_peace 35 = .ok (.aload_n 0, 1) := by decide +kernel
theorem dX9_peace_36 : decode cX9_peace 36 = .ok (.invokevirtual 229, 3) := by decide +kernel
theorem dX9_peace_39 : decode cX9_peace 39 = .ok (.istore_n 3, 1) := by decide +kernel
theorem dX9_peace_40 : decode cX9_peace 40 = .ok (.iload_n 3, 1) := by decide +kernel
theorem dX9_peace_41 : decode cX9_peace 41 = .ok (.ifCond .ne 20, 3) := by decide +kernel
theorem dX9_peace_44 : decode cX9_peace 44 = .ok (.iload_n 1, 1) := by decide +kernel
theorem dX9_peace_45 : decode cX9_peace 45 = .ok (.ifCond .ne 7, 3) := by decide +kernel
theorem dX9_peace_48 : decode cX9_peace 48 = .ok (.iload_n 2, 1) := by decide +kernel
theorem dX9_peace_49 : decode cX9_peace 49 = .ok (.goto 11, 3) := by decide +kernel
theorem dX9_peace_52 : decode cX9_peace 52 = .ok (.aload_n 0, 1) := by decide +kernel
theorem dX9_peace_53 : decode cX9_peace 53 = .ok (.getfield 7, 3) := by decide +kernel
theorem dX9_peace_56 : decode cX9_peace 56 = .ok (.sipush 1061, 3) := by decide +kernel
theorem dX9_peace_59 : decode cX9_peace 59 = .ok (.iaload, 1) := by decide +kernel
theorem dX9_peace_60 : decode cX9_peace 60 = .ok (.ireturn, 1) := by decide +kernel
theorem dX9_peace_61 : decode cX9_peace 61 = .ok (.aload_n 0, 1) := by decide +kernel
theorem dX9_peace_62 : decode cX9_peace 62 = .ok (.getfield 7, 3) := by decide +kernel
theorem dX9_peace_65 : decode cX9_peace 65 = .ok (.sipush 1061, 3) := by decide +kernel
theorem dX9_peace_68 : decode cX9_peace 68 = .ok (.dup2, 1) := by decide +kernel
theorem dX9_peace_69 : decode cX9_peace 69 = .ok (.iaload, 1) := by decide +kernel
theorem dX9_peace_70 : decode cX9_peace 70 = .ok (.iload_n 3, 1) := by decide +kernel
theorem dX9_peace_71 : decode cX9_peace 71 = .ok (.iload_n 3, 1) := by decide +kernel
theorem dX9_peace_72 : decode cX9_peace 72 = .ok (.ineg, 1) := by decide +kernel
theorem dX9_peace_73 : decode cX9_peace 73 = .ok (.iand, 1) := by decide +kernel
theorem dX9_peace_74 : decode cX9_peace 74 = .ok (.ixor, 1) := by decide +kernel
theorem dX9_peace_75 : decode cX9_peace 75 = .ok (.iastore, 1) := by decide +kernel
theorem dX9_peace_76 : decode cX9_peace 76 = .ok (.iinc 2 1, 3) := by decide +kernel
theorem dX9_peace_79 : decode cX9_peace 79 = .ok (.goto (-50), 3) := by decide +kernel
theorem dX9_peace_82 : decode cX9_peace 82 = .ok (.ldc 128, 2) := by decide +kernel
theorem dX9_peace_84 : decode cX9_peace 84 = .ok (.ireturn, 1) := by decide +kernel
theorem dX9_noItems_0 : decode cX9_noItems 0 = .ok (.aload_n 0, 1) := by decide +kernel
theorem dX9_noItems_1 : decode cX9_noItems 1 = .ok (.getfield 20, 3) := by decide +kernel
theorem dX9_noItems_4 : decode cX9_noItems 4 = .ok (.iload_n 1, 1) := by decide +kernel
theorem dX9_noItems_5 : decode cX9_noItems 5 = .ok (.iaload, 1) := by decide +kernel
theorem dX9_noItems_6 : decode cX9_noItems 6 = .ok (.ifCond .ge 11, 3) := by decide +kernel
theorem dX9_noItems_9 : decode cX9_noItems 9 = .ok (.aload_n 0, 1) := by decide +kernel
theorem dX9_noItems_10 : decode cX9_noItems 10 = .ok (.iconst 1, 1) := by decide +kernel
theorem dX9_noItems_11 : decode cX9_noItems 11 = .ok (.invokevirtual 71, 3) := by decide +kernel
theorem dX9_noItems_14 : decode cX9_noItems 14 = .ok (.goto 22, 3) := by decide +kernel
theorem dX9_noItems_17 : decode cX9_noItems 17 = .ok (.aload_n 0, 1) := by decide +kernel
theorem dX9_noItems_18 : decode cX9_noItems 18 = .ok (.iload_n 1, 1) := by decide +kernel
theorem dX9_noItems_19 : decode cX9_noItems 19 = .ok (.iload_n 2, 1) := by decide +kernel
theorem dX9_noItems_20 : decode cX9_noItems 20 = .ok (.iload_n 3, 1) := by decide +kernel
theorem dX9_noItems_21 : decode cX9_noItems 21 = .ok (.invokevirtual 82, 3) := by decide +kernel
theorem dX9_noItems_24 : decode cX9_noItems 24 = .ok (.ifCond .eq 7, 3) := by decide +kernel
theorem dX9_noItems_27 : decode cX9_noItems 27 = .ok (.iconst 0, 1) := by decide +kernel
theorem dX9_noItems_28 : decode cX9_noItems 28 = .ok (.goto 8, 3) := by decide +kernel
theorem dX9_noItems_31 : decode cX9_noItems 31 = .ok (.aload_n 0, 1) := by decide +kernel
theorem dX9_noItems_32 : decode cX9_noItems 32 = .ok (.iconst 2, 1) := by decide +kernel
theorem dX9_noItems_33 : decode cX9_noItems 33 = .ok (.invokevirtual 71, 3) := by decide +kernel
theorem dX9_noItems_36 : decode cX9_noItems 36 = .ok (.ireturn, 1) := by decide +kernel
theorem dX9_isSo_0 : decode cX9_isSo 0 = .ok (.iconst 0, 1) := by decide +kernel
theorem dX9_isSo_1 : decode cX9_isSo 1 = .ok (.istore 4, 2) := by decide +kernel
theorem dX9_isSo_3 : decode cX9_isSo 3 = .ok (.iload 4, 2) := by decide +kernel
theorem dX9_isSo_5 : decode cX9_isSo 5 = .ok (.iload_n 3, 1) := by decide +kernel
theorem dX9_isSo_6 : decode cX9_isSo 6 = .ok (.if_icmp .ge 49, 3) := by decide +kernel
theorem dX9_isSo_9 : decode cX9_isSo 9 = .ok (.aload_n 0, 1) := by decide +kernel
theorem dX9_isSo_10 : decode cX9_isSo 10 = .ok (.iload 4, 2) := by decide +kernel
theorem dX9_isSo_12 : decode cX9_isSo 12 = .ok (.invokevirtual 211, 3) := by decide +kernel
theorem dX9_isSo_15 : decode cX9_isSo 15 = .ok (.istore 5, 2) := by decide +kernel
theorem dX9_isSo_17 : decode cX9_isSo 17 = .ok (.iload 5, 2) := by decide +kernel
theorem dX9_isSo_19 : decode cX9_isSo 19 = .ok (.ldc 128, 2) := by decide +kernel
theorem dX9_isSo_21 : decode cX9_isSo 21 = .ok (.if_icmp .ne 7, 3) := by decide +kernel
theorem dX9_isSo_24 : decode cX9_isSo 24 = .ok (.iconst (-1), 1) := by decide +kernel
theorem dX9_isSo_25 : decode cX9_isSo 25 = .ok (.goto 5, 3) := by decide +kernel
theorem dX9_isSo_28 : decode cX9_isSo 28 = .ok (.iload 5, 2) := by decide +kernel
theorem dX9_isSo_30 : decode cX9_isSo 30 = .ok (.aload_n 0, 1) := by decide +kernel
theorem dX9_isSo_31 : decode cX9_isSo 31 = .ok (.getfield 23, 3) := by decide +kernel
theorem dX9_isSo_34 : decode cX9_isSo 34 = .ok (.bipush 40, 2) := by decide +kernel
theorem dX9_isSo_36 : decode cX9_isSo 36 = .ok (.iload_n 1, 1) := by decide +kernel
theorem dX9_isSo_37 : decode cX9_isSo 37 = .ok (.imul, 1) := by decide +kernel
theorem dX9_isSo_38 : decode cX9_isSo 38 = .ok (.iload_n 2, 1) := by decide +kernel
theorem dX9_isSo_39 : decode cX9_isSo 39 = .ok (.iadd, 1) := by decide +kernel
theorem dX9_isSo_40 : decode cX9_isSo 40 = .ok (.iload 4, 2) := by decide +kernel
theorem dX9_isSo_42 : decode cX9_isSo 42 = .ok (.iadd, 1) := by decide +kernel
theorem dX9_isSo_43 : decode cX9_isSo 43 = .ok (.iaload, 1) := by decide +kernel
theorem dX9_isSo_44 : decode cX9_isSo 44 = .ok (.if_icmp .eq 5, 3) := by decide +kernel
theorem dX9_isSo_47 : decode cX9_isSo 47 = .ok (.iconst 0, 1) := by decide +kernel
theorem dX9_isSo_48 : decode cX9_isSo 48 = .ok (.ireturn, 1) := by decide +kernel
theorem dX9_isSo_49 : decode cX9_isSo 49 = .ok (.iinc 4 1, 3) := by decide +kernel
theorem dX9_isSo_52 : decode cX9_isSo 52 = .ok (.goto (-49), 3) := by decide +kernel
theorem dX9_isSo_55 : decode cX9_isSo 55 = .ok (.iconst 1, 1) := by decide +kernel
theorem dX9_isSo_56 : decode cX9_isSo 56 = .ok (.ireturn, 1) := by decide +kernel
theorem dX9_rolls_0 : decode cX9_rolls 0 = .ok (.aload_n 0, 1) := by decide +kernel
theorem dX9_rolls_1 : decode cX9_rolls 1 = .ok (.getfield 150, 3) := by decide +kernel
theorem dX9_rolls_4 : decode cX9_rolls 4 = .ok (.ifCond .ne 6, 3) := by decide +kernel
theorem dX9_rolls_7 : decode cX9_rolls 7 = .ok (.ldc 157, 2) := by decide +kernel
theorem dX9_rolls_9 : decode cX9_rolls 9 = .ok (.ireturn, 1) := by decide +kernel
theorem dX9_rolls_10 : decode cX9_rolls 10 = .ok (.iload_n 1, 1) := by decide +kernel
theorem dX9_rolls_11 : decode cX9_rolls 11 = .ok (.invokestatic 64, 3) := by decide +kernel
theorem dX9_rolls_14 : decode cX9_rolls 14 = .ok (.ifCond .eq 28, 3) := by decide +kernel
theorem dX9_rolls_17 : decode cX9_rolls 17 = .ok (.iload_n 3, 1) := by decide +kernel
theorem dX9_rolls_18 : decode cX9_rolls 18 = .ok (.i2l, 1) := by decide +kernel
theorem dX9_rolls_19 : decode cX9_rolls 19 = .ok (.lconst 1, 1) := by decide +kernel
theorem dX9_rolls_20 : decode cX9_rolls 20 = .ok (.ldc2_w 233, 3) := by decide +kernel
theorem dX9_rolls_23 : decode cX9_rolls 23 = .ok (.invokestatic 60, 3) := by decide +kernel
theorem dX9_rolls_26 : decode cX9_rolls 26 = .ok (.ifCond .eq 16, 3) := by decide +kernel
theorem dX9_rolls_29 : decode cX9_rolls 29 = .ok (.iload 4, 2) := by decide +kernel
theorem dX9_rolls_31 : decode cX9_rolls 31 = .ok (.i2l, 1) := by decide +kernel
theorem dX9_rolls_32 : decode cX9_rolls 32 = .ok (.lconst 0, 1) := by decide +kernel
theorem dX9_rolls_33 : decode cX9_rolls 33 = .ok (.ldc2_w 235, 3) := by decide +kernel
theorem dX9_rolls_36 : decode cX9_rolls 36 = .ok (.invokestatic 60, 3) := by decide +kernel
theorem dX9_rolls_39 : decode cX9_rolls 39 = .ok (.ifCond .ne 6, 3) := by decide +kernel
theorem dX9_rolls_42 : decode cX9_rolls 42 = .ok (.ldc 70, 2) := by decide +kernel
theorem dX9_rolls_44 : decode cX9_rolls 44 = .ok (.ireturn, 1) := by decide +kernel
theorem dX9_rolls_45 : decode cX9_rolls 45 = .ok (.aload_n 0, 1) := by decide +kernel
theorem dX9_rolls_46 : decode cX9_rolls 46 = .ok (.iload_n 1, 1) := by decide +kernel
theorem dX9_rolls_47 : decode cX9_rolls 47 = .ok (.iload_n 2, 1) := by decide +kernel
theorem dX9_rolls_48 : decode cX9_rolls 48 = .ok (.iload_n 3, 1) := by decide +kernel
theorem dX9_rolls_49 : decode cX9_rolls 49 = .ok (.invokevirtual 237, 3) := by decide +kernel
theorem dX9_rolls_52 : decode cX9_rolls 52 = .ok (.istore 5, 2) := by decide +kernel
theorem dX9_rolls_54 : decode cX9_rolls 54 = .ok (.iload 5, 2) := by decide +kernel
theorem dX9_rolls_56 : decode cX9_rolls 56 = .ok (.ifCond .eq 6, 3) := by decide +kernel
theorem dX9_rolls_59 : decode cX9_rolls 59 = .ok (.iload 5, 2) := by decide +kernel
theorem dX9_rolls_61 : decode cX9_rolls 61 = .ok (.ireturn, 1) := by decide +kernel
theorem dX9_rolls_62 : decode cX9_rolls 62 = .ok (.iconst 0, 1) := by decide +kernel
theorem dX9_rolls_63 : decode cX9_rolls 63 = .ok (.istore 6, 2) := by decide +kernel
theorem dX9_rolls_65 : decode cX9_rolls 65 = .ok (.iload 4, 2) := by decide +kernel
theorem dX9_rolls_67 : decode cX9_rolls 67 = .ok (.iconst 2, 1) := by decide +kernel
theorem dX9_rolls_68 : decode cX9_rolls 68 = .ok (.if_icmp .ne 7, 3) := by decide +kernel
theorem dX9_rolls_71 : decode cX9_rolls 71 = .ok (.iconst 1, 1) := by decide +kernel
theorem dX9_rolls_72 : decode cX9_rolls 72 = .ok (.goto 4, 3) := by decide +kernel
theorem dX9_rolls_75 : decode cX9_rolls 75 = .ok (.iconst 0, 1) := by decide +kernel
theorem dX9_rolls_76 : decode cX9_rolls 76 = .ok (.istore 7, 2) := by decide +kernel
theorem dX9_rolls_78 : decode cX9_rolls 78 = .ok (.iload 7, 2) := by decide +kernel
theorem dX9_rolls_80 : decode cX9_rolls 80 = .ok (.aload_n 0, 1) := by decide +kernel
theorem dX9_rolls_81 : decode cX9_rolls 81 = .ok (.getfield 47, 3) := by decide +kernel
theorem dX9_rolls_84 : decode cX9_rolls 84 = .ok (.iload 4, 2) := by decide +kernel
theorem dX9_rolls_86 : decode cX9_rolls 86 = .ok (.iaload, 1) := by decide +kernel
theorem dX9_rolls_87 : decode cX9_rolls 87 = .ok (.if_icmp .gt 54, 3) := by decide +kernel
theorem dX9_rolls_90 : decode cX9_rolls 90 = .ok (.aload_n 0, 1) := by decide +kernel
theorem dX9_rolls_91 : decode cX9_rolls 91 = .ok (.invokevirtual 208, 3) := by decide +kernel
theorem dX9_rolls_94 : decode cX9_rolls 94 = .ok (.aload_n 0, 1) := by decide +kernel
theorem dX9_rolls_95 : decode cX9_rolls 95 = .ok (.getfield 7, 3) := by decide +kernel
theorem dX9_rolls_98 : decode cX9_rolls 98 = .ok (.sipush 1053, 3) := by decide +kernel
theorem dX9_rolls_101 : decode cX9_rolls 101 = .ok (.aload_n 0, 1) := by decide +kernel
theorem dX9_rolls_102 : decode cX9_rolls 102 = .ok (.getfield 44, 3) := by decide +kernel
theorem dX9_rolls_105 : decode cX9_rolls 105 = .ok (.iload 4, 2) := by decide +kernel
theorem dX9_rolls_107 : decode cX9_rolls 107 = .ok (.iaload, 1) := by decide +kernel
theorem dX9_rolls_108 : decode cX9_rolls 108 = .ok (.iadd, 1) := by decide +kernel
theorem dX9_rolls_109 : decode cX9_rolls 109 = .ok (.iload 7, 2) := by decide +kernel
theorem dX9_rolls_111 : decode cX9_rolls 111 = .ok (.iastore, 1) := by decide +kernel
theorem dX9_rolls_112 : decode cX9_rolls 112 = .ok (.iload 6, 2) := by decide +kernel
theorem dX9_rolls_114 : decode cX9_rolls 114 = .ok (.aload_n 0, 1) := by decide +kernel
theorem dX9_rolls_115 : decode cX9_rolls 115 = .ok (.iload_n 1, 1) := by decide +kernel
theorem dX9_rolls_116 : decode cX9_rolls 116 = .ok (.iload_n 2, 1) := by decide +kernel
theorem dX9_rolls_117 : decode cX9_rolls 117 = .ok (.iload_n 3, 1) := by decide +kernel
theorem dX9_rolls_118 : decode cX9_rolls 118 = .ok (.invokevirtual 240, 3) := by decide +kernel
theorem dX9_rolls_121 : decode cX9_rolls 121 = .ok (.ifCond .eq 10, 3) := by decide +kernel
theorem dX9_rolls_124 : decode cX9_rolls 124 = .ok (.iconst 1, 1) := by decide +kernel
theorem dX9_rolls_125 : decode cX9_rolls 125 = .ok (.iload 7, 2) := by decide +kernel
theorem dX9_rolls_127 : decode cX9_rolls 127 = .ok (.ishl, 1) := by decide +kernel
theorem dX9_rolls_128 : decode cX9_rolls 128 = .ok (.goto 4, 3) := by decide +kernel
theorem dX9_rolls_131 : decode cX9_rolls 131 = .ok (.iconst 0, 1) := by decide +kernel
theorem dX9_rolls_132 : decode cX9_rolls 132 = .ok (.ior, 1) := by decide +kernel
theorem dX9_rolls_133 : decode cX9_rolls 133 = .ok (.istore 6, 2) := by decide +kernel
theorem dX9_rolls_135 : decode cX9_rolls 135 = .ok (.iinc 7 1, 3) := by decide +kernel
theorem dX9_rolls_138 : decode cX9_rolls 138 = .ok (.goto (-60), 3) := by decide +kernel
theorem dX9_rolls_141 : decode cX9_rolls 141 = .ok (.aload_n 0, 1) := by decide +kernel
theorem dX9_rolls_142 : decode cX9_rolls 142 = .ok (.iload 6, 2) := by decide +kernel
theorem dX9_rolls_144 : decode cX9_rolls 144 = .ok (.invokevirtual 75, 3) := by decide +kernel
theorem dX9_rolls_147 : decode cX9_rolls 147 = .ok (.ireturn, 1) := by decide +kernel
theorem dX9_sorts_0 : decode cX9_sorts 0 = .ok (.aload_n 0, 1) := by decide +kernel
theorem dX9_sorts_1 : decode cX9_sorts 1 = .ok (.iload_n 1, 1) := by decide +kernel
theorem dX9_sorts_2 : decode cX9_sorts 2 = .ok (.invokevirtual 193, 3) := by decide +kernel
theorem dX9_sorts_5 : decode cX9_sorts 5 = .ok (.ifCond .eq 23, 3) := by decide +kernel
theorem dX9_sorts_8 : decode cX9_sorts 8 = .ok (.iload_n 2, 1) := by decide +kernel
theorem dX9_sorts_9 : decode cX9_sorts 9 = .ok (.invokestatic 64, 3) := by decide +kernel
theorem dX9_sorts_12 : decode cX9_sorts 12 = .ok (.ifCond .eq 16, 3) := by decide +kernel
theorem dX9_sorts_15 : decode cX9_sorts 15 = .ok (.iload 4, 2) := by decide +kernel
theorem dX9_sorts_17 : decode cX9_sorts 17 = .ok (.i2l, 1) := by decide +kernel
theorem dX9_sorts_18 : decode cX9_sorts 18 = .ok (.lconst 1, 1) := by decide +kernel
theorem dX9_sorts_19 : decode cX9_sorts 19 = .ok (.ldc2_w 233, 3) := by decide +kernel
theorem dX9_sorts_22 : decode cX9_sorts 22 = .ok (.invokestatic 60, 3) := by decide +kernel
theorem dX9_sorts_25 : decode cX9_sorts 25 = .ok (.ifCond .ne 6, 3) := by decide +kernel
theorem dX9_sorts_28 : decode cX9_sorts 28 = .ok (.ldc 70, 2) := by decide +kernel
theorem dX9_sorts_30 : decode cX9_sorts 30 = .ok (.ireturn, 1) := by decide +kernel
theorem dX9_sorts_31 : decode cX9_sorts 31 = .ok (.aload_n 0, 1) := by decide +kernel
theorem dX9_sorts_32 : decode cX9_sorts 32 = .ok (.iload_n 2, 1) := by decide +kernel
theorem dX9_sorts_33 : decode cX9_sorts 33 = .ok (.iload_n 3, 1) := by decide +kernel
theorem dX9_sorts_34 : decode cX9_sorts 34 = .ok (.iload 4, 2) := by decide +kernel
theorem dX9_sorts_36 : decode cX9_sorts 36 = .ok (.invokevirtual 237, 3) := by decide +kernel
theorem dX9_sorts_39 : decode cX9_sorts 39 = .ok (.istore 5, 2) := by decide +kernel
theorem dX9_sorts_41 : decode cX9_sorts 41 = .ok (.iload 5, 2) := by decide +kernel
theorem dX9_sorts_43 : decode cX9_sorts 43 = .ok (.ifCond .eq 6, 3) := by decide +kernel
theorem dX9_sorts_46 : decode cX9_sorts 46 = .ok (.iload 5, 2) := by decide +kernel
theorem dX9_sorts_48 : decode cX9_sorts 48 = .ok (.ireturn, 1) := by decide +kernel
theorem dX9_sorts_49 : decode cX9_sorts 49 = .ok (.iconst 0, 1) := by decide +kernel
theorem dX9_sorts_50 : decode cX9_sorts 50 = .ok (.istore 6, 2) := by decide +kernel
theorem dX9_sorts_52 : decode cX9_sorts 52 = .ok (.iconst 1, 1) := by decide +kernel
theorem dX9_sorts_53 : decode cX9_sorts 53 = .ok (.istore 7, 2) := by decide +kernel
theorem dX9_sorts_55 : decode cX9_sorts 55 = .ok (.iload 7, 2) := by decide +kernel
theorem dX9_sorts_57 : decode cX9_sorts 57 = .ok (.bipush 6, 2) := by decide +kernel
theorem dX9_sorts_59 : decode cX9_sorts 59 = .ok (.if_icmp .ge 49, 3) := by decide +kernel
theorem dX9_sorts_62 : decode cX9_sorts 62 = .ok (.aload_n 0, 1) := by decide +kernel
theorem dX9_sorts_63 : decode cX9_sorts 63 = .ok (.invokevirtual 208, 3) := by decide +kernel
theorem dX9_sorts_66 : decode cX9_sorts 66 = .ok (.aload_n 0, 1) := by decide +kernel
theorem dX9_sorts_67 : decode cX9_sorts 67 = .ok (.getfield 7, 3) := by decide +kernel
theorem dX9_sorts_70 : decode cX9_sorts 70 = .ok (.sipush 1062, 3) := by decide +kernel
theorem dX9_sorts_73 : decode cX9_sorts 73 = .ok (.iload_n 1, 1) := by decide +kernel
theorem dX9_sorts_74 : decode cX9_sorts 74 = .ok (.iadd, 1) := by decide +kernel
theorem dX9_sorts_75 : decode cX9_sorts 75 = .ok (.iload 7, 2) := by decide +kernel
theorem dX9_sorts_77 : decode cX9_sorts 77 = .ok (.iastore, 1) := by decide +kernel
theorem dX9_sorts_78 : decode cX9_sorts 78 = .ok (.iload 6, 2) := by decide +kernel
theorem dX9_sorts_80 : decode cX9_sorts 80 = .ok (.aload_n 0, 1) := by decide +kernel
theorem dX9_sorts_81 : decode cX9_sorts 81 = .ok (.iload_n 2, 1) := by decide +kernel
theorem dX9_sorts_82 : decode cX9_sorts 82 = .ok (.iload_n 3, 1) := by decide +kernel
theorem dX9_sorts_83 : decode cX9_sorts 83 = .ok (.iload 4, 2) := by decide +kernel
theorem dX9_sorts_85 : decode cX9_sorts 85 = .ok (.invokevirtual 240, 3) := by decide +kernel
theorem dX9_sorts_88 : decode cX9_sorts 88 = .ok (.ifCond .eq 10, 3) := by decide +kernel
theorem dX9_sorts_91 : decode cX9_sorts 91 = .ok (.iconst 1, 1) := by decide +kernel
theorem dX9_sorts_92 : decode cX9_sorts 92 = .ok (.iload 7, 2) := by decide +kernel
theorem dX9_sorts_94 : decode cX9_sorts 94 = .ok (.ishl, 1) := by decide +kernel
theorem dX9_sorts_95 : decode cX9_sorts 95 = .ok (.goto 4, 3) := by decide +kernel
theorem dX9_sorts_98 : decode cX9_sorts 98 = .ok (.iconst 0, 1) := by decide +kernel
theorem dX9_sorts_99 : decode cX9_sorts 99 = .ok (.ior, 1) := by decide +kernel
theorem dX9_sorts_100 : decode cX9_sorts 100 = .ok (.istore 6, 2) := by decide +kernel
theorem dX9_sorts_102 : decode cX9_sorts 102 = .ok (.iinc 7 1, 3) := by decide +kernel
theorem dX9_sorts_105 : decode cX9_sorts 105 = .ok (.goto (-50), 3) := by decide +kernel
theorem dX9_sorts_108 : decode cX9_sorts 108 = .ok (.aload_n 0, 1) := by decide +kernel
theorem dX9_sorts_109 : decode cX9_sorts 109 = .ok (.iload 6, 2) := by decide +kernel
theorem dX9_sorts_111 : decode cX9_sorts 111 = .ok (.invokevirtual 75, 3) := by decide +kernel
theorem dX9_sorts_114 : decode cX9_sorts 114 = .ok (.ireturn, 1) := by decide +kernel
theorem dX9_play_0 : decode cX9_play 0 = .ok (.aload_n 0, 1) := by decide +kernel
theorem dX9_play_1 : decode cX9_play 1 = .ok (.iload_n 1, 1) := by decide +kernel
theorem dX9_play_2 : decode cX9_play 2 = .ok (.invokevirtual 193, 3) := by decide +kernel
theorem dX9_play_5 : decode cX9_play 5 = .ok (.ifCond .eq 25, 3) := by decide +kernel
theorem dX9_play_8 : decode cX9_play 8 = .ok (.iload_n 2, 1) := by decide +kernel
theorem dX9_play_9 : decode cX9_play 9 = .ok (.i2l, 1) := by decide +kernel
theorem dX9_play_10 : decode cX9_play 10 = .ok (.lconst 0, 1) := by decide +kernel
theorem dX9_play_11 : decode cX9_play 11 = .ok (.ldc2_w 243, 3) := by decide +kernel
theorem dX9_play_14 : decode cX9_play 14 = .ok (.invokestatic 60, 3) := by decide +kernel
theorem dX9_play_17 : decode cX9_play 17 = .ok (.ifCond .eq 13, 3) := by decide +kernel
theorem dX9_play_20 : decode cX9_play 20 = .ok (.iload_n 3, 1) := by decide +kernel
theorem dX9_play_21 : decode cX9_play 21 = .ok (.i2l, 1) := by decide +kernel
theorem dX9_play_22 : decode cX9_play 22 = .ok (.lconst 0, 1) := by decide +kernel
theorem dX9_play_23 : decode cX9_play 23 = .ok (.lconst 1, 1) := by decide +kernel
theorem dX9_play_24 : decode cX9_play 24 = .ok (.invokestatic 60, 3) := by decide +kernel
theorem dX9_play_27 : decode cX9_play 27 = .ok (.ifCond .ne 6, 3) := by decide +kernel
theorem dX9_play_30 : decode cX9_play 30 = .ok (.ldc 70, 2) := by decide +kernel
theorem dX9_play_32 : decode cX9_play 32 = .ok (.ireturn, 1) := by decide +kernel
theorem dX9_play_33 : decode cX9_play 33 = .ok (.iconst 0, 1) := by decide +kernel
theorem dX9_play_34 : decode cX9_play 34 = .ok (.istore 4, 2) := by decide +kernel
theorem dX9_play_36 : decode cX9_play 36 = .ok (.iconst 0, 1) := by decide +kernel
theorem dX9_play_37 : decode cX9_play 37 = .ok (.istore 5, 2) := by decide +kernel
theorem dX9_play_39 : decode cX9_play 39 = .ok (.iconst 0, 1) := by decide +kernel
theorem dX9_play_40 : decode cX9_play 40 = .ok (.istore 6, 2) := by decide +kernel
theorem dX9_play_42 : decode cX9_play 42 = .ok (.iload 6, 2) := by decide +kernel
theorem dX9_play_44 : decode cX9_play 44 = .ok (.iconst 1, 1) := by decide +kernel
theorem dX9_play_45 : decode cX9_play 45 = .ok (.aload_n 0, 1) := by decide +kernel
theorem dX9_play_46 : decode cX9_play 46 = .ok (.getfield 7, 3) := by decide +kernel
theorem dX9_play_49 : decode cX9_play 49 = .ok (.iconst 1, 1) := by decide +kernel
theorem dX9_play_50 : decode cX9_play 50 = .ok (.iaload, 1) := by decide +kernel
theorem dX9_play_51 : decode cX9_play 51 = .ok (.ishl, 1) := by decide +kernel
theorem dX9_play_52 : decode cX9_play 52 = .ok (.if_icmp .ge 84, 3) := by decide +kernel
theorem dX9_play_55 : decode cX9_play 55 = .ok (.iconst 1, 1) := by decide +kernel
theorem dX9_play_56 : decode cX9_play 56 = .ok (.istore 7, 2) := by decide +kernel
theorem dX9_play_58 : decode cX9_play 58 = .ok (.iconst 0, 1) := by decide +kernel
theorem dX9_play_59 : decode cX9_play 59 = .ok (.istore 8, 2) := by decide +kernel
theorem dX9_play_61 : decode cX9_play 61 = .ok (.iload 8, 2) := by decide +kernel
theorem dX9_play_63 : decode cX9_play 63 = .ok (.aload_n 0, 1) := by decide +kernel
theorem dX9_play_64 : decode cX9_play 64 = .ok (.getfield 7, 3) := by decide +kernel
theorem dX9_play_67 : decode cX9_play 67 = .ok (.iconst 1, 1) := by decide +kernel
theorem dX9_play_68 : decode cX9_play 68 = .ok (.iaload, 1) := by decide +kernel
theorem dX9_play_69 : decode cX9_play 69 = .ok (.if_icmp .ge 32, 3) := by decide +kernel
theorem dX9_play_72 : decode cX9_play 72 = .ok (.iload 7, 2) := by decide +kernel
theorem dX9_play_74 : decode cX9_play 74 = .ok (.iload 6, 2) := by decide +kernel
theorem dX9_play_76 : decode cX9_play 76 = .ok (.iload 8, 2) := by decide +kernel
theorem dX9_play_78 : decode cX9_play 78 = .ok (.invokestatic 158, 3) := by decide +kernel
theorem dX9_play_81 : decode cX9_play 81 = .ok (.ifCond .eq 7, 3) := by decide +kernel
theorem dX9_play_84 : decode cX9_play 84 = .ok (.iload_n 2, 1) := by decide +kernel
theorem dX9_play_85 : decode cX9_play 85 = .ok (.goto 7, 3) := by decide +kernel
theorem dX9_play_88 : decode cX9_play 88 = .ok (.bipush 10, 2) := by decide +kernel
theorem dX9_play_90 : decode cX9_play 90 = .ok (.iload_n 2, 1) := by decide +kernel
theorem dX9_play_91 : decode cX9_play 91 = .ok (.isub, 1) := by decide +kernel
theorem dX9_play_92 : decode cX9_play 92 = .ok (.imul, 1) := by decide +kernel
theorem dX9_play_93 : decode cX9_play 93 = .ok (.istore 7, 2) := by decide +kernel
theorem dX9_play_95 : decode cX9_play 95 = .ok (.iinc 8 1, 3) := by decide +kernel
theorem dX9_play_98 : decode cX9_play 98 = .ok (.goto (-37), 3) := by decide +kernel
theorem dX9_play_101 : decode cX9_play 101 = .ok (.iload 4, 2) := by decide +kernel
theorem dX9_play_103 : decode cX9_play 103 = .ok (.aload_n 0, 1) := by decide +kernel
theorem dX9_play_104 : decode cX9_play 104 = .ok (.iload 6, 2) := by decide +kernel
theorem dX9_play_106 : decode cX9_play 106 = .ok (.iconst 0, 1) := by decide +kernel
theorem dX9_play_107 : decode cX9_play 107 = .ok (.invokevirtual 217, 3) := by decide +kernel
theorem dX9_play_110 : decode cX9_play 110 = .ok (.iload_n 1, 1) := by decide +kernel
theorem dX9_play_111 : decode cX9_play 111 = .ok (.if_icmp .ne 8, 3) := by decide +kernel
theorem dX9_play_114 : decode cX9_play 114 = .ok (.iload 7, 2) := by decide +kernel
theorem dX9_play_116 : decode cX9_play 116 = .ok (.goto 4, 3) := by decide +kernel
theorem dX9_play_119 : decode cX9_play 119 = .ok (.iconst 0, 1) := by decide +kernel
theorem dX9_play_120 : decode cX9_play 120 = .ok (.iadd, 1) := by decide +kernel
theorem dX9_play_121 : decode cX9_play 121 = .ok (.istore 4, 2) := by decide +kernel
theorem dX9_play_123 : decode cX9_play 123 = .ok (.iload 5, 2) := by decide +kernel
theorem dX9_play_125 : decode cX9_play 125 = .ok (.iload 7, 2) := by decide +kernel
theorem dX9_play_127 : decode cX9_play 127 = .ok (.iadd, 1) := by decide +kernel
theorem dX9_play_128 : decode cX9_play 128 = .ok (.istore 5, 2) := by decide +kernel
theorem dX9_play_130 : decode cX9_play 130 = .ok (.iinc 6 1, 3) := by decide +kernel
theorem dX9_play_133 : decode cX9_play 133 = .ok (.goto (-91), 3) := by decide +kernel
theorem dX9_play_136 : decode cX9_play 136 = .ok (.iload 4, 2) := by decide +kernel
theorem dX9_play_138 : decode cX9_play 138 = .ok (.istore 6, 2) := by decide +kernel
theorem dX9_play_140 : decode cX9_play 140 = .ok (.iload 5, 2) := by decide +kernel
theorem dX9_play_142 : decode cX9_play 142 = .ok (.istore 7, 2) := by decide +kernel
theorem dX9_play_144 : decode cX9_play 144 = .ok (.iload 7, 2) := by decide +kernel
theorem dX9_play_146 : decode cX9_play 146 = .ok (.ifCond .eq 21, 3) := by decide +kernel
theorem dX9_play_149 : decode cX9_play 149 = .ok (.iload 6, 2) := by decide +kernel
theorem dX9_play_151 : decode cX9_play 151 = .ok (.iload 7, 2) := by decide +kernel
theorem dX9_play_153 : decode cX9_play 153 = .ok (.irem, 1) := by decide +kernel
theorem dX9_play_154 : decode cX9_play 154 = .ok (.istore 8, 2) := by decide +kernel
theorem dX9_play_156 : decode cX9_play 156 = .ok (.iload 7, 2) := by decide +kernel
theorem dX9_play_158 : decode cX9_play 158 = .ok (.istore 6, 2) := by decide +kernel
theorem dX9_play_160 : decode cX9_play 160 = .ok (.iload 8, 2) := by decide +kernel
theorem dX9_play_162 : decode cX9_play 162 = .ok (.istore 7, 2) := by decide +kernel
theorem dX9_play_164 : decode cX9_play 164 = .ok (.goto (-20), 3) := by decide +kernel
theorem dX9_play_167 : decode cX9_play 167 = .ok (.iload_n 3, 1) := by decide +kernel
theorem dX9_play_168 : decode cX9_play 168 = .ok (.ifCond .ne 11, 3) := by decide +kernel
theorem dX9_play_171 : decode cX9_play 171 = .ok (.iload 4, 2) := by decide +kernel
theorem dX9_play_173 : decode cX9_play 173 = .ok (.iload 6, 2) := by decide +kernel
theorem dX9_play_175 : decode cX9_play 175 = .ok (.idiv, 1) := by decide +kernel
theorem dX9_play_176 : decode cX9_play 176 = .ok (.goto 8, 3) := by decide +kernel
theorem dX9_play_179 : decode cX9_play 179 = .ok (.iload 5, 2) := by decide +kernel
theorem dX9_play_181 : decode cX9_play 181 = .ok (.iload 6, 2) := by decide +kernel
theorem dX9_play_183 : decode cX9_play 183 = .ok (.idiv, 1) := by decide +kernel
theorem dX9_play_184 : decode cX9_play 184 = .ok (.ireturn, 1) := by decide +kernel
theorem dX9_drawn_0 : decode cX9_drawn 0 = .ok (.aload_n 0, 1) := by decide +kernel
theorem dX9_drawn_1 : decode cX9_drawn 1 = .ok (.getfield 150, 3) := by decide +kernel
theorem dX9_drawn_4 : decode cX9_drawn 4 = .ok (.ifCond .ne 6, 3) := by decide +kernel
theorem dX9_drawn_7 : decode cX9_drawn 7 = .ok (.ldc 157, 2) := by decide +kernel
theorem dX9_drawn_9 : decode cX9_drawn 9 = .ok (.ireturn, 1) := by decide +kernel
theorem dX9_drawn_10 : decode cX9_drawn 10 = .ok (.iload_n 1, 1) := by decide +kernel
theorem dX9_drawn_11 : decode cX9_drawn 11 = .ok (.i2l, 1) := by decide +kernel
theorem dX9_drawn_12 : decode cX9_drawn 12 = .ok (.lconst 0, 1) := by decide +kernel
theorem dX9_drawn_13 : decode cX9_drawn 13 = .ok (.ldc2_w 203, 3) := by decide +kernel
theorem dX9_drawn_16 : decode cX9_drawn 16 = .ok (.invokestatic 60, 3) := by decide +kernel
theorem dX9_drawn_19 : decode cX9_drawn 19 = .ok (.ifCond .eq 25, 3) := by decide +kernel
theorem dX9_drawn_22 : decode cX9_drawn 22 = .ok (.iload_n 2, 1) := by decide +kernel
theorem dX9_drawn_23 : decode cX9_drawn 23 = .ok (.i2l, 1) := by decide +kernel
theorem dX9_drawn_24 : decode cX9_drawn 24 = .ok (.lconst 1, 1) := by decide +kernel
theorem dX9_drawn_25 : decode cX9_drawn 25 = .ok (.ldc2_w 245, 3) := by decide +kernel
theorem dX9_drawn_28 : decode cX9_drawn 28 = .ok (.invokestatic 60, 3) := by decide +kernel
theorem dX9_drawn_31 : decode cX9_drawn 31 = .ok (.ifCond .eq 13, 3) := by decide +kernel
theorem dX9_drawn_34 : decode cX9_drawn 34 = .ok (.iload_n 3, 1) := by decide +kernel
theorem dX9_drawn_35 : decode cX9_drawn 35 = .ok (.i2l, 1) := by decide +kernel
theorem dX9_drawn_36 : decode cX9_drawn 36 = .ok (.lconst 0, 1) := by decide +kernel
theorem dX9_drawn_37 : decode cX9_drawn 37 = .ok (.lconst 1, 1) := by decide +kernel
theorem dX9_drawn_38 : decode cX9_drawn 38 = .ok (.invokestatic 60, 3) := by decide +kernel
theorem dX9_drawn_41 : decode cX9_drawn 41 = .ok (.ifCond .ne 6, 3) := by decide +kernel
theorem dX9_drawn_44 : decode cX9_drawn 44 = .ok (.ldc 70, 2) := by decide +kernel
theorem dX9_drawn_46 : decode cX9_drawn 46 = .ok (.ireturn, 1) := by decide +kernel
theorem dX9_drawn_47 : decode cX9_drawn 47 = .ok (.aload_n 0, 1) := by decide +kernel
theorem dX9_drawn_48 : decode cX9_drawn 48 = .ok (.invokevirtual 208, 3) := by decide +kernel
theorem dX9_drawn_51 : decode cX9_drawn 51 = .ok (.iconst 0, 1) := by decide +kernel
theorem dX9_drawn_52 : decode cX9_drawn 52 = .ok (.istore 4, 2) := by decide +kernel
theorem dX9_drawn_54 : decode cX9_drawn 54 = .ok (.iload 4, 2) := by decide +kernel
theorem dX9_drawn_56 : decode cX9_drawn 56 = .ok (.bipush 6, 2) := by decide +kernel
theorem dX9_drawn_58 : decode cX9_drawn 58 = .ok (.if_icmp .ge 17, 3) := by decide +kernel
theorem dX9_drawn_61 : decode cX9_drawn 61 = .ok (.aload_n 0, 1) := by decide +kernel
theorem dX9_drawn_62 : decode cX9_drawn 62 = .ok (.getfield 50, 3) := by decide +kernel
theorem dX9_drawn_65 : decode cX9_drawn 65 = .ok (.iload 4, 2) := by decide +kernel
theorem dX9_drawn_67 : decode cX9_drawn 67 = .ok (.iconst 0, 1) := by decide +kernel
theorem dX9_drawn_68 : decode cX9_drawn 68 = .ok (.iastore, 1) := by decide +kernel
theorem dX9_drawn_69 : decode cX9_drawn 69 = .ok (.iinc 4 1, 3) := by decide +kernel
theorem dX9_drawn_72 : decode cX9_drawn 72 = .ok (.goto (-18), 3) := by decide +kernel
theorem dX9_drawn_75 : decode cX9_drawn 75 = .ok (.iload_n 2, 1) := by decide +kernel
theorem dX9_drawn_76 : decode cX9_drawn 76 = .ok (.i2l, 1) := by decide +kernel
theorem dX9_drawn_77 : decode cX9_drawn 77 = .ok (.lstore 4, 2) := by decide +kernel
theorem dX9_drawn_79 : decode cX9_drawn 79 = .ok (.iconst 0, 1) := by decide +kernel
theorem dX9_drawn_80 : decode cX9_drawn 80 = .ok (.istore 6, 2) := by decide +kernel
theorem dX9_drawn_82 : decode cX9_drawn 82 = .ok (.iconst 0, 1) := by decide +kernel
theorem dX9_drawn_83 : decode cX9_drawn 83 = .ok (.istore 7, 2) := by decide +kernel
theorem dX9_drawn_85 : decode cX9_drawn 85 = .ok (.iload 7, 2) := by decide +kernel
theorem dX9_drawn_87 : decode cX9_drawn 87 = .ok (.iload_n 1, 1) := by decide +kernel
theorem dX9_drawn_88 : decode cX9_drawn 88 = .ok (.if_icmp .ge 102, 3) := by decide +kernel
theorem dX9_drawn_91 : decode cX9_drawn 91 = .ok (.lload 4, 2) := by decide +kernel
theorem dX9_drawn_93 : decode cX9_drawn 93 = .ok (.ldc2_w 247, 3) := by decide +kernel
theorem dX9_drawn_96 : decode cX9_drawn 96 = .ok (.lmul, 1) := by decide +kernel
theorem dX9_drawn_97 : decode cX9_drawn 97 = .ok (.ldc2_w 249, 3) := by decide +kernel
theorem dX9_drawn_100 : decode cX9_drawn 100 = .ok (.lrem, 1) := by decide +kernel
theorem dX9_drawn_101 : decode cX9_drawn 101 = .ok (.lstore 4, 2) := by decide +kernel
theorem dX9_drawn_103 : decode cX9_drawn 103 = .ok (.lload 4, 2) := by decide +kernel
theorem dX9_drawn_105 : decode cX9_drawn 105 = .ok (.ldc2_w 235, 3) := by decide +kernel
theorem dX9_drawn_108 : decode cX9_drawn 108 = .ok (.lrem, 1) := by decide +kernel
theorem dX9_drawn_109 : decode cX9_drawn 109 = .ok (.lconst 0, 1) := by decide +kernel
theorem dX9_drawn_110 : decode cX9_drawn 110 = .ok (.lcmp, 1) := by decide +kernel
theorem dX9_drawn_111 : decode cX9_drawn 111 = .ok (.ifCond .ne 36, 3) := by decide +kernel
theorem dX9_drawn_114 : decode cX9_drawn 114 = .ok (.aload_n 0, 1) := by decide +kernel
theorem dX9_drawn_115 : decode cX9_drawn 115 = .ok (.getfield 7, 3) := by decide +kernel
theorem dX9_drawn_118 : decode cX9_drawn 118 = .ok (.iconst 1, 1) := by decide +kernel
theorem dX9_drawn_119 : decode cX9_drawn 119 = .ok (.iaload, 1) := by decide +kernel
theorem dX9_drawn_120 : decode cX9_drawn 120 = .ok (.ifCond .le 27, 3) := by decide +kernel
theorem dX9_drawn_123 : decode cX9_drawn 123 = .ok (.aload_n 0, 1) := by decide +kernel
theorem dX9_drawn_124 : decode cX9_drawn 124 = .ok (.getfield 7, 3) := by decide +kernel
theorem dX9_drawn_127 : decode cX9_drawn 127 = .ok (.sipush 1061, 3) := by decide +kernel
theorem dX9_drawn_130 : decode cX9_drawn 130 = .ok (.dup2, 1) := by decide +kernel
theorem dX9_drawn_131 : decode cX9_drawn 131 = .ok (.iaload, 1) := by decide +kernel
theorem dX9_drawn_132 : decode cX9_drawn 132 = .ok (.iconst 1, 1) := by decide +kernel
theorem dX9_drawn_133 : decode cX9_drawn 133 = .ok (.lload 4, 2) := by decide +kernel
theorem dX9_drawn_135 : decode cX9_drawn 135 = .ok (.aload_n 0, 1) := by decide +kernel
theorem dX9_drawn_136 : decode cX9_drawn 136 = .ok (.getfield 7, 3) := by decide +kernel
theorem dX9_drawn_139 : decode cX9_drawn 139 = .ok (.iconst 1, 1) := by decide +kernel
theorem dX9_drawn_140 : decode cX9_drawn 140 = .ok (.iaload, 1) := by decide +kernel
theorem dX9_drawn_141 : decode cX9_drawn 141 = .ok (.i2l, 1) := by decide +kernel
theorem dX9_drawn_142 : decode cX9_drawn 142 = .ok (.lrem, 1) := by decide +kernel
theorem dX9_drawn_143 : decode cX9_drawn 143 = .ok (.l2i, 1) := by decide +kernel
theorem dX9_drawn_144 : decode cX9_drawn 144 = .ok (.ishl, 1) := by decide +kernel
theorem dX9_drawn_145 : decode cX9_drawn 145 = .ok (.ixor, 1) := by decide +kernel
theorem dX9_drawn_146 : decode cX9_drawn 146 = .ok (.iastore, 1) := by decide +kernel
theorem dX9_drawn_147 : decode cX9_drawn 147 = .ok (.aload_n 0, 1) := by decide +kernel
theorem dX9_drawn_148 : decode cX9_drawn 148 = .ok (.sipush 1053, 3) := by decide +kernel
theorem dX9_drawn_151 : decode cX9_drawn 151 = .ok (.lload 4, 2) := by decide +kernel
theorem dX9_drawn_153 : decode cX9_drawn 153 = .ok (.ldc2_w 58, 3) := by decide +kernel
theorem dX9_drawn_156 : decode cX9_drawn 156 = .ok (.lrem, 1) := by decide +kernel
theorem dX9_drawn_157 : decode cX9_drawn 157 = .ok (.l2i, 1) := by decide +kernel
theorem dX9_drawn_158 : decode cX9_drawn 158 = .ok (.invokevirtual 179, 3) := by decide +kernel
theorem dX9_drawn_161 : decode cX9_drawn 161 = .ok (.istore 8, 2) := by decide +kernel
theorem dX9_drawn_163 : decode cX9_drawn 163 = .ok (.iload 8, 2) := by decide +kernel
theorem dX9_drawn_165 : decode cX9_drawn 165 = .ok (.ldc 128, 2) := by decide +kernel
theorem dX9_drawn_167 : decode cX9_drawn 167 = .ok (.if_icmp .eq 17, 3) := by decide +kernel
theorem dX9_drawn_170 : decode cX9_drawn 170 = .ok (.aload_n 0, 1) := by decide +kernel
theorem dX9_drawn_171 : decode cX9_drawn 171 = .ok (.getfield 50, 3) := by decide +kernel
theorem dX9_drawn_174 : decode cX9_drawn 174 = .ok (.iload 8, 2) := by decide +kernel
theorem dX9_drawn_176 : decode cX9_drawn 176 = .ok (.dup2, 1) := by decide +kernel
theorem dX9_drawn_177 : decode cX9_drawn 177 = .ok (.iaload, 1) := by decide +kernel
theorem dX9_drawn_178 : decode cX9_drawn 178 = .ok (.iconst 1, 1) := by decide +kernel
theorem dX9_drawn_179 : decode cX9_drawn 179 = .ok (.iadd, 1) := by decide +kernel
theorem dX9_drawn_180 : decode cX9_drawn 180 = .ok (.iastore, 1) := by decide +kernel
theorem dX9_drawn_181 : decode cX9_drawn 181 = .ok (.iinc 6 1, 3) := by decide +kernel
theorem dX9_drawn_184 : decode cX9_drawn 184 = .ok (.iinc 7 1, 3) := by decide +kernel
theorem dX9_drawn_187 : decode cX9_drawn 187 = .ok (.goto (-102), 3) := by decide +kernel
theorem dX9_drawn_190 : decode cX9_drawn 190 = .ok (.ldc 128, 2) := by decide +kernel
theorem dX9_drawn_192 : decode cX9_drawn 192 = .ok (.istore 7, 2) := by decide +kernel
theorem dX9_drawn_194 : decode cX9_drawn 194 = .ok (.iconst 0, 1) := by decide +kernel
theorem dX9_drawn_195 : decode cX9_drawn 195 = .ok (.istore 8, 2) := by decide +kernel
theorem dX9_drawn_197 : decode cX9_drawn 197 = .ok (.iconst 0, 1) := by decide +kernel
theorem dX9_drawn_198 : decode cX9_drawn 198 = .ok (.istore 9, 2) := by decide +kernel
theorem dX9_drawn_200 : decode cX9_drawn 200 = .ok (.iload 9, 2) := by decide +kernel
theorem dX9_drawn_202 : decode cX9_drawn 202 = .ok (.bipush 6, 2) := by decide +kernel
theorem dX9_drawn_204 : decode cX9_drawn 204 = .ok (.if_icmp .ge 56, 3) := by decide +kernel
theorem dX9_drawn_207 : decode cX9_drawn 207 = .ok (.aload_n 0, 1) := by decide +kernel
theorem dX9_drawn_208 : decode cX9_drawn 208 = .ok (.getfield 50, 3) := by decide +kernel
theorem dX9_drawn_211 : decode cX9_drawn 211 = .ok (.iload 9, 2) := by decide +kernel
theorem dX9_drawn_213 : decode cX9_drawn 213 = .ok (.iaload, 1) := by decide +kernel
theorem dX9_drawn_214 : decode cX9_drawn 214 = .ok (.iload 8, 2) := by decide +kernel
theorem dX9_drawn_216 : decode cX9_drawn 216 = .ok (.if_icmp .le 8, 3) := by decide +kernel
theorem dX9_drawn_219 : decode cX9_drawn 219 = .ok (.iload 9, 2) := by decide +kernel
theorem dX9_drawn_221 : decode cX9_drawn 221 = .ok (.goto 5, 3) := by decide +kernel
theorem dX9_drawn_224 : decode cX9_drawn 224 = .ok (.iload 7, 2) := by decide +kernel
theorem dX9_drawn_226 : decode cX9_drawn 226 = .ok (.istore 7, 2) := by decide +kernel
theorem dX9_drawn_228 : decode cX9_drawn 228 = .ok (.aload_n 0, 1) := by decide +kernel
theorem dX9_drawn_229 : decode cX9_drawn 229 = .ok (.getfield 50, 3) := by decide +kernel
theorem dX9_drawn_232 : decode cX9_drawn 232 = .ok (.iload 9, 2) := by decide +kernel
theorem dX9_drawn_234 : decode cX9_drawn 234 = .ok (.iaload, 1) := by decide +kernel
theorem dX9_drawn_235 : decode cX9_drawn 235 = .ok (.iload 8, 2) := by decide +kernel
theorem dX9_drawn_237 : decode cX9_drawn 237 = .ok (.if_icmp .le 13, 3) := by decide +kernel
theorem dX9_drawn_240 : decode cX9_drawn 240 = .ok (.aload_n 0, 1) := by decide +kernel
theorem dX9_drawn_241 : decode cX9_drawn 241 = .ok (.getfield 50, 3) := by decide +kernel
theorem dX9_drawn_244 : decode cX9_drawn 244 = .ok (.iload 9, 2) := by decide +kernel
theorem dX9_drawn_246 : decode cX9_drawn 246 = .ok (.iaload, 1) := by decide +kernel
theorem dX9_drawn_247 : decode cX9_drawn 247 = .ok (.goto 5, 3) := by decide +kernel
theorem dX9_drawn_250 : decode cX9_drawn 250 = .ok (.iload 8, 2) := by decide +kernel
theorem dX9_drawn_252 : decode cX9_drawn 252 = .ok (.istore 8, 2) := by decide +kernel
theorem dX9_drawn_254 : decode cX9_drawn 254 = .ok (.iinc 9 1, 3) := by decide +kernel
theorem dX9_drawn_257 : decode cX9_drawn 257 = .ok (.goto (-57), 3) := by decide +kernel
theorem dX9_drawn_260 : decode cX9_drawn 260 = .ok (.iload_n 3, 1) := by decide +kernel
theorem dX9_drawn_261 : decode cX9_drawn 261 = .ok (.ifCond .ne 8, 3) := by decide +kernel
theorem dX9_drawn_264 : decode cX9_drawn 264 = .ok (.iload 6, 2) := by decide +kernel
theorem dX9_drawn_266 : decode cX9_drawn 266 = .ok (.goto 5, 3) := by decide +kernel
theorem dX9_drawn_269 : decode cX9_drawn 269 = .ok (.iload 7, 2) := by decide +kernel
theorem dX9_drawn_271 : decode cX9_drawn 271 = .ok (.ireturn, 1) := by decide +kernel
theorem dX9_image_0 : decode cX9_image 0 = .ok (.iload_n 1, 1) := by decide +kernel
theorem dX9_image_1 : decode cX9_image 1 = .ok (.i2l, 1) := by decide +kernel
theorem dX9_image_2 : decode cX9_image 2 = .ok (.lconst 0, 1) := by decide +kernel
theorem dX9_image_3 : decode cX9_image 3 = .ok (.lconst 1, 1) := by decide +kernel
theorem dX9_image_4 : decode cX9_image 4 = .ok (.invokestatic 60, 3) := by decide +kernel
theorem dX9_image_7 : decode cX9_image 7 = .ok (.ifCond .ne 6, 3) := by decide +kernel
theorem dX9_image_10 : decode cX9_image 10 = .ok (.ldc 70, 2) := by decide +kernel
theorem dX9_image_12 : decode cX9_image 12 = .ok (.ireturn, 1) := by decide +kernel
theorem dX9_image_13 : decode cX9_image 13 = .ok (.aload_n 0, 1) := by decide +kernel
theorem dX9_image_14 : decode cX9_image 14 = .ok (.getfield 150, 3) := by decide +kernel
theorem dX9_image_17 : decode cX9_image 17 = .ok (.ifCond .ne 6, 3) := by decide +kernel
theorem dX9_image_20 : decode cX9_image 20 = .ok (.ldc 157, 2) := by decide +kernel
theorem dX9_image_22 : decode cX9_image 22 = .ok (.ireturn, 1) := by decide +kernel
theorem dX9_image_23 : decode cX9_image 23 = .ok (.aload_n 0, 1) := by decide +kernel
theorem dX9_image_24 : decode cX9_image 24 = .ok (.iconst 0, 1) := by decide +kernel
theorem dX9_image_25 : decode cX9_image 25 = .ok (.sipush 975, 3) := by decide +kernel
theorem dX9_image_28 : decode cX9_image 28 = .ok (.bipush 39, 2) := by decide +kernel
theorem dX9_image_30 : decode cX9_image 30 = .ok (.iload_n 1, 1) := by decide +kernel
theorem dX9_image_31 : decode cX9_image 31 = .ok (.imul, 1) := by decide +kernel
theorem dX9_image_32 : decode cX9_image 32 = .ok (.iadd, 1) := by decide +kernel
theorem dX9_image_33 : decode cX9_image 33 = .ok (.invokevirtual 146, 3) := by decide +kernel
theorem dX9_image_36 : decode cX9_image 36 = .ok (.aload_n 0, 1) := by decide +kernel
theorem dX9_image_37 : decode cX9_image 37 = .ok (.getfield 13, 3) := by decide +kernel
theorem dX9_image_40 : decode cX9_image 40 = .ok (.iload_n 1, 1) := by decide +kernel
theorem dX9_image_41 : decode cX9_image 41 = .ok (.iconst 1, 1) := by decide +kernel
theorem dX9_image_42 : decode cX9_image 42 = .ok (.bastore, 1) := by decide +kernel
theorem dX9_image_43 : decode cX9_image 43 = .ok (.iconst 1, 1) := by decide +kernel
theorem dX9_image_44 : decode cX9_image 44 = .ok (.ireturn, 1) := by decide +kernel
theorem dX9_restore_0 : decode cX9_restore 0 = .ok (.iload_n 1, 1) := by decide +kernel
theorem dX9_restore_1 : decode cX9_restore 1 = .ok (.i2l, 1) := by decide +kernel
theorem dX9_restore_2 : decode cX9_restore 2 = .ok (.lconst 0, 1) := by decide +kernel
theorem dX9_restore_3 : decode cX9_restore 3 = .ok (.lconst 1, 1) := by decide +kernel
theorem dX9_restore_4 : decode cX9_restore 4 = .ok (.invokestatic 60, 3) := by decide +kernel
theorem dX9_restore_7 : decode cX9_restore 7 = .ok (.ifCond .ne 6, 3) := by decide +kernel
theorem dX9_restore_10 : decode cX9_restore 10 = .ok (.ldc 70, 2) := by decide +kernel
theorem dX9_restore_12 : decode cX9_restore 12 = .ok (.ireturn, 1) := by decide +kernel
theorem dX9_restore_13 : decode cX9_restore 13 = .ok (.aload_n 0, 1) := by decide +kernel
theorem dX9_restore_14 : decode cX9_restore 14 = .ok (.getfield 13, 3) := by decide +kernel
theorem dX9_restore_17 : decode cX9_restore 17 = .ok (.iload_n 1, 1) := by decide +kernel
theorem dX9_restore_18 : decode cX9_restore 18 = .ok (.baload, 1) := by decide +kernel
theorem dX9_restore_19 : decode cX9_restore 19 = .ok (.ifCond .ne 6, 3) := by decide +kernel
theorem dX9_restore_22 : decode cX9_restore 22 = .ok (.ldc 157, 2) := by decide +kernel
theorem dX9_restore_24 : decode cX9_restore 24 = .ok (.ireturn, 1) := by decide +kernel
theorem dX9_restore_25 : decode cX9_restore 25 = .ok (.aload_n 0, 1) := by decide +kernel
theorem dX9_restore_26 : decode cX9_restore 26 = .ok (.sipush 975, 3) := by decide +kernel
theorem dX9_restore_29 : decode cX9_restore 29 = .ok (.bipush 39, 2) := by decide +kernel
theorem dX9_restore_31 : decode cX9_restore 31 = .ok (.iload_n 1, 1) := by decide +kernel
theorem dX9_restore_32 : decode cX9_restore 32 = .ok (.imul, 1) := by decide +kernel
theorem dX9_restore_33 : decode cX9_restore 33 = .ok (.iadd, 1) := by decide +kernel
theorem dX9_restore_34 : decode cX9_restore 34 = .ok (.iconst 0, 1) := by decide +kernel
theorem dX9_restore_35 : decode cX9_restore 35 = .ok (.invokevirtual 146, 3) := by decide +kernel
theorem dX9_restore_38 : decode cX9_restore 38 = .ok (.aload_n 0, 1) := by decide +kernel
theorem dX9_restore_39 : decode cX9_restore 39 = .ok (.iconst 0, 1) := by decide +kernel
theorem dX9_restore_40 : decode cX9_restore 40 = .ok (.putfield 154, 3) := by decide +kernel
theorem dX9_restore_43 : decode cX9_restore 43 = .ok (.iconst 1, 1) := by decide +kernel
theorem dX9_restore_44 : decode cX9_restore 44 = .ok (.ireturn, 1) := by decide +kernel
theorem dX9_kind_0 : decode cX9_kind 0 = .ok (.aload_n 0, 1) := by decide +kernel
theorem dX9_kind_1 : decode cX9_kind 1 = .ok (.iload_n 1, 1) := by decide +kernel
theorem dX9_kind_2 : decode cX9_kind 2 = .ok (.invokevirtual 193, 3) := by decide +kernel
theorem dX9_kind_5 : decode cX9_kind 5 = .ok (.ifCond .eq 15, 3) := by decide +kernel
theorem dX9_kind_8 : decode cX9_kind 8 = .ok (.aload_n 0, 1) := by decide +kernel
theorem dX9_kind_9 : decode cX9_kind 9 = .ok (.getfield 7, 3) := by decide +kernel
theorem dX9_kind_12 : decode cX9_kind 12 = .ok (.bipush 9, 2) := by decide +kernel
theorem dX9_kind_14 : decode cX9_kind 14 = .ok (.iload_n 1, 1) := by decide +kernel
theorem dX9_kind_15 : decode cX9_kind 15 = .ok (.iadd, 1) := by decide +kernel
theorem dX9_kind_16 : decode cX9_kind 16 = .ok (.iaload, 1) := by decide +kernel
theorem dX9_kind_17 : decode cX9_kind 17 = .ok (.goto 5, 3) := by decide +kernel
theorem dX9_kind_20 : decode cX9_kind 20 = .ok (.ldc 70, 2) := by decide +kernel
theorem dX9_kind_22 : decode cX9_kind 22 = .ok (.ireturn, 1) := by decide +kernel
theorem dX9_isOf_0 : decode cX9_isOf 0 = .ok (.aload_n 0, 1) := by decide +kernel
theorem dX9_isOf_1 : decode cX9_isOf 1 = .ok (.getfield 7, 3) := by decide +kernel
theorem dX9_isOf_4 : decode cX9_isOf 4 = .ok (.bipush 9, 2) := by decide +kernel
theorem dX9_isOf_6 : decode cX9_isOf 6 = .ok (.iload_n 1, 1) := by decide +kernel
theorem dX9_isOf_7 : decode cX9_isOf 7 = .ok (.iadd, 1) := by decide +kernel
theorem dX9_isOf_8 : decode cX9_isOf 8 = .ok (.iaload, 1) := by decide +kernel
theorem dX9_isOf_9 : decode cX9_isOf 9 = .ok (.istore_n 3, 1) := by decide +kernel
theorem dX9_isOf_10 : decode cX9_isOf 10 = .ok (.iload_n 2, 1) := by decide +kernel
theorem dX9_isOf_11 : decode cX9_isOf 11 = .ok (.ifCond .eq 33, 3) := by decide +kernel
theorem dX9_isOf_14 : decode cX9_isOf 14 = .ok (.iload_n 2, 1) := by decide +kernel
theorem dX9_isOf_15 : decode cX9_isOf 15 = .ok (.iload_n 3, 1) := by decide +kernel
theorem dX9_isOf_16 : decode cX9_isOf 16 = .ok (.if_icmp .eq 28, 3) := by decide +kernel
theorem dX9_isOf_19 : decode cX9_isOf 19 = .ok (.iload_n 2, 1) := by decide +kernel
theorem dX9_isOf_20 : decode cX9_isOf 20 = .ok (.iconst 1, 1) := by decide +kernel
theorem dX9_isOf_21 : decode cX9_isOf 21 = .ok (.if_icmp .ne 13, 3) := by decide +kernel
theorem dX9_isOf_24 : decode cX9_isOf 24 = .ok (.iload_n 3, 1) := by decide +kernel
theorem dX9_isOf_25 : decode cX9_isOf 25 = .ok (.iconst 2, 1) := by decide +kernel
theorem dX9_isOf_26 : decode cX9_isOf 26 = .ok (.if_icmp .eq 18, 3) := by decide +kernel
theorem dX9_isOf_29 : decode cX9_isOf 29 = .ok (.iload_n 3, 1) := by decide +kernel
theorem dX9_isOf_30 : decode cX9_isOf 30 = .ok (.iconst 3, 1) := by decide +kernel
theorem dX9_isOf_31 : decode cX9_isOf 31 = .ok (.if_icmp .eq 13, 3) := by decide +kernel
theorem dX9_isOf_34 : decode cX9_isOf 34 = .ok (.iload_n 2, 1) := by decide +kernel
theorem dX9_isOf_35 : decode cX9_isOf 35 = .ok (.iconst 4, 1) := by decide +kernel
theorem dX9_isOf_36 : decode cX9_isOf 36 = .ok (.if_icmp .ne 12, 3) := by decide +kernel
theorem dX9_isOf_39 : decode cX9_isOf 39 = .ok (.iload_n 3, 1) := by decide +kernel
theorem dX9_isOf_40 : decode cX9_isOf 40 = .ok (.iconst 5, 1) := by decide +kernel
theorem dX9_isOf_41 : decode cX9_isOf 41 = .ok (.if_icmp .ne 7, 3) := by decide +kernel
theorem dX9_isOf_44 : decode cX9_isOf 44 = .ok (.iconst 1, 1) := by decide +kernel
theorem dX9_isOf_45 : decode cX9_isOf 45 = .ok (.goto 4, 3) := by decide +kernel
theorem dX9_isOf_48 : decode cX9_isOf 48 = .ok (.iconst 0, 1) := by decide +kernel
theorem dX9_isOf_49 : decode cX9_isOf 49 = .ok (.ireturn, 1) := by decide +kernel
theorem dX9_as_0 : decode cX9_as 0 = .ok (.aload_n 0, 1) := by decide +kernel
theorem dX9_as_1 : decode cX9_as 1 = .ok (.iload_n 1, 1) := by decide +kernel
theorem dX9_as_2 : decode cX9_as 2 = .ok (.invokevirtual 193, 3) := by decide +kernel
theorem dX9_as_5 : decode cX9_as 5 = .ok (.ifCond .eq 15, 3) := by decide +kernel
theorem dX9_as_8 : decode cX9_as 8 = .ok (.iload_n 2, 1) := by decide +kernel
theorem dX9_as_9 : decode cX9_as 9 = .ok (.i2l, 1) := by decide +kernel
theorem dX9_as_10 : decode cX9_as 10 = .ok (.lconst 0, 1) := by decide +kernel
theorem dX9_as_11 : decode cX9_as 11 = .ok (.ldc2_w 251, 3) := by decide +kernel
theorem dX9_as_14 : decode cX9_as 14 = .ok (.invokestatic 60, 3) := by decide +kernel
theorem dX9_as_17 : decode cX9_as 17 = .ok (.ifCond .ne 6, 3) := by decide +kernel
theorem dX9_as_20 : decode cX9_as 20 = .ok (.ldc 70, 2) := by decide +kernel
theorem dX9_as_22 : decode cX9_as 22 = .ok (.ireturn, 1) := by decide +kernel
theorem dX9_as_23 : decode cX9_as 23 = .ok (.aload_n 0, 1) := by decide +kernel
theorem dX9_as_24 : decode cX9_as 24 = .ok (.iload_n 1, 1) := by decide +kernel
theorem dX9_as_25 : decode cX9_as 25 = .ok (.iload_n 2, 1) := by decide +kernel
theorem dX9_as_26 : decode cX9_as 26 = .ok (.invokevirtual 253, 3) := by decide +kernel
theorem dX9_as_29 : decode cX9_as 29 = .ok (.ifCond .eq 11, 3) := by decide +kernel
theorem dX9_as_32 : decode cX9_as 32 = .ok (.aload_n 0, 1) := by decide +kernel
theorem dX9_as_33 : decode cX9_as 33 = .ok (.iload_n 1, 1) := by decide +kernel
theorem dX9_as_34 : decode cX9_as 34 = .ok (.invokevirtual 75, 3) := by decide +kernel
theorem dX9_as_37 : decode cX9_as 37 = .ok (.goto 8, 3) := by decide +kernel
theorem dX9_as_40 : decode cX9_as 40 = .ok (.aload_n 0, 1) := by decide +kernel
theorem dX9_as_41 : decode cX9_as 41 = .ok (.iconst 3, 1) := by decide +kernel
theorem dX9_as_42 : decode cX9_as 42 = .ok (.invokevirtual 71, 3) := by decide +kernel
theorem dX9_as_45 : decode cX9_as 45 = .ok (.ireturn, 1) := by decide +kernel
theorem dX9_begin_0 : decode cX9_begin 0 = .ok (.aload_n 0, 1) := by decide +kernel
theorem dX9_begin_1 : decode cX9_begin 1 = .ok (.getfield 256, 3) := by decide +kernel
theorem dX9_begin_4 : decode cX9_begin 4 = .ok (.bipush 16, 2) := by decide +kernel
theorem dX9_begin_6 : decode cX9_begin 6 = .ok (.if_icmp .ge 23, 3) := by decide +kernel
theorem dX9_begin_9 : decode cX9_begin 9 = .ok (.aload_n 0, 1) := by decide +kernel
theorem dX9_begin_10 : decode cX9_begin 10 = .ok (.getfield 29, 3) := by decide +kernel
theorem dX9_begin_13 : decode cX9_begin 13 = .ok (.aload_n 0, 1) := by decide +kernel
theorem dX9_begin_14 : decode cX9_begin 14 = .ok (.getfield 256, 3) := by decide +kernel
theorem dX9_begin_17 : decode cX9_begin 17 = .ok (.iload_n 1, 1) := by decide +kernel
theorem dX9_begin_18 : decode cX9_begin 18 = .ok (.iastore, 1) := by decide +kernel
theorem dX9_begin_19 : decode cX9_begin 19 = .ok (.aload_n 0, 1) := by decide +kernel
theorem dX9_begin_20 : decode cX9_begin 20 = .ok (.dup, 1) := by decide +kernel
theorem dX9_begin_21 : decode cX9_begin 21 = .ok (.getfield 256, 3) := by decide +kernel
theorem dX9_begin_24 : decode cX9_begin 24 = .ok (.iconst 1, 1) := by decide +kernel
theorem dX9_begin_25 : decode cX9_begin 25 = .ok (.iadd, 1) := by decide +kernel
theorem dX9_begin_26 : decode cX9_begin 26 = .ok (.putfield 256, 3) := by decide +kernel
theorem dX9_begin_29 : decode cX9_begin 29 = .ok (.return_, 1) := by decide +kernel
theorem dX9_lentSize_0 : decode cX9_lentSize 0 = .ok (.aload_n 0, 1) := by decide +kernel
theorem dX9_lentSize_1 : decode cX9_lentSize 1 = .ok (.bipush 10, 2) := by decide +kernel
theorem dX9_lentSize_3 : decode cX9_lentSize 3 = .ok (.invokevirtual 259, 3) := by decide +kernel
theorem dX9_lentSize_6 : decode cX9_lentSize 6 = .ok (.aload_n 0, 1) := by decide +kernel
theorem dX9_lentSize_7 : decode cX9_lentSize 7 = .ok (.getfield 7, 3) := by decide +kernel
theorem dX9_lentSize_10 : decode cX9_lentSize 10 = .ok (.bipush 15, 2) := by decide +kernel
theorem dX9_lentSize_12 : decode cX9_lentSize 12 = .ok (.iload_n 1, 1) := by decide +kernel
theorem dX9_lentSize_13 : decode cX9_lentSize 13 = .ok (.iadd, 1) := by decide +kernel
theorem dX9_lentSize_14 : decode cX9_lentSize 14 = .ok (.iaload, 1) := by decide +kernel
theorem dX9_lentSize_15 : decode cX9_lentSize 15 = .ok (.ireturn, 1) := by decide +kernel
theorem dX9_doorSize_0 : decode cX9_doorSize 0 = .ok (.aload_n 0, 1) := by decide +kernel
theorem dX9_doorSize_1 : decode cX9_doorSize 1 = .ok (.bipush 11, 2) := by decide +kernel
theorem dX9_doorSize_3 : decode cX9_doorSize 3 = .ok (.invokevirtual 259, 3) := by decide +kernel
theorem dX9_doorSize_6 : decode cX9_doorSize 6 = .ok (.aload_n 0, 1) := by decide +kernel
theorem dX9_doorSize_7 : decode cX9_doorSize 7 = .ok (.iload_n 1, 1) := by decide +kernel
theorem dX9_doorSize_8 : decode cX9_doorSize 8 = .ok (.invokevirtual 263, 3) := by decide +kernel
theorem dX9_doorSize_11 : decode cX9_doorSize 11 = .ok (.istore_n 2, 1) := by decide +kernel
theorem dX9_doorSize_12 : decode cX9_doorSize 12 = .ok (.iload_n 2, 1) := by decide +kernel
theorem dX9_doorSize_13 : decode cX9_doorSize 13 = .ok (.aload_n 0, 1) := by decide +kernel
theorem dX9_doorSize_14 : decode cX9_doorSize 14 = .ok (.iload_n 1, 1) := by decide +kernel
theorem dX9_doorSize_15 : decode cX9_doorSize 15 = .ok (.invokevirtual 266, 3) := by decide +kernel
theorem dX9_doorSize_18 : decode cX9_doorSize 18 = .ok (.iadd, 1) := by decide +kernel
theorem dX9_doorSize_19 : decode cX9_doorSize 19 = .ok (.ireturn, 1) := by decide +kernel
theorem dX9_wallSize_0 : decode cX9_wallSize 0 = .ok (.aload_n 0, 1) := by decide +kernel
theorem dX9_wallSize_1 : decode cX9_wallSize 1 = .ok (.bipush 13, 2) := by decide +kernel
theorem dX9_wallSize_3 : decode cX9_wallSize 3 = .ok (.invokevirtual 259, 3) := by decide +kernel
theorem dX9_wallSize_6 : decode cX9_wallSize 6 = .ok (.aload_n 0, 1) := by decide +kernel
theorem dX9_wallSize_7 : decode cX9_wallSize 7 = .ok (.iload_n 1, 1) := by decide +kernel
theorem dX9_wallSize_8 : decode cX9_wallSize 8 = .ok (.invokevirtual 263, 3) := by decide +kernel
theorem dX9_wallSize_11 : decode cX9_wallSize 11 = .ok (.bipush 100, 2) := by decide +kernel
theorem dX9_wallSize_13 : decode cX9_wallSize 13 = .ok (.isub, 1) := by decide +kernel
theorem dX9_wallSize_14 : decode cX9_wallSize 14 = .ok (.ireturn, 1) := by decide +kernel
theorem dX9_sizeOf_0 : decode cX9_sizeOf 0 = .ok (.aload_n 0, 1) := by decide +kernel
theorem dX9_sizeOf_1 : decode cX9_sizeOf 1 = .ok (.getfield 7, 3) := by decide +kernel
theorem dX9_sizeOf_4 : decode cX9_sizeOf 4 = .ok (.bipush 9, 2) := by decide +kernel
theorem dX9_sizeOf_6 : decode cX9_sizeOf 6 = .ok (.iload_n 1, 1) := by decide +kernel
theorem dX9_sizeOf_7 : decode cX9_sizeOf 7 = .ok (.iadd, 1) := by decide +kernel
theorem dX9_sizeOf_8 : decode cX9_sizeOf 8 = .ok (.iaload, 1) := by decide +kernel
theorem dX9_sizeOf_9 : decode cX9_sizeOf 9 = .ok (.tableswitch 64 2 5 #[31, 64, 44, 50], 31) := by decide +kernel
theorem dX9_sizeOf_40 : decode cX9_sizeOf 40 = .ok (.aload_n 0, 1) := by decide +kernel
theorem dX9_sizeOf_41 : decode cX9_sizeOf 41 = .ok (.bipush 12, 2) := by decide +kernel
theorem dX9_sizeOf_43 : decode cX9_sizeOf 43 = .ok (.invokevirtual 259, 3) := by decide +kernel
theorem dX9_sizeOf_46 : decode cX9_sizeOf 46 = .ok (.aload_n 0, 1) := by decide +kernel
theorem dX9_sizeOf_47 : decode cX9_sizeOf 47 = .ok (.iload_n 1, 1) := by decide +kernel
theorem dX9_sizeOf_48 : decode cX9_sizeOf 48 = .ok (.invokevirtual 269, 3) := by decide +kernel
theorem dX9_sizeOf_51 : decode cX9_sizeOf 51 = .ok (.ineg, 1) := by decide +kernel
theorem dX9_sizeOf_52 : decode cX9_sizeOf 52 = .ok (.ireturn, 1) := by decide +kernel
theorem dX9_sizeOf_53 : decode cX9_sizeOf 53 = .ok (.aload_n 0, 1) := by decide +kernel
theorem dX9_sizeOf_54 : decode cX9_sizeOf 54 = .ok (.iload_n 1, 1) := by decide +kernel
theorem dX9_sizeOf_55 : decode cX9_sizeOf 55 = .ok (.invokevirtual 272, 3) := by decide +kernel
theorem dX9_sizeOf_58 : decode cX9_sizeOf 58 = .ok (.ireturn, 1) := by decide +kernel
theorem dX9_sizeOf_59 : decode cX9_sizeOf 59 = .ok (.aload_n 0, 1) := by decide +kernel
theorem dX9_sizeOf_60 : decode cX9_sizeOf 60 = .ok (.bipush 14, 2) := by decide +kernel
theorem dX9_sizeOf_62 : decode cX9_sizeOf 62 = .ok (.invokevirtual 259, 3) := by decide +kernel
theorem dX9_sizeOf_65 : decode cX9_sizeOf 65 = .ok (.iconst 2, 1) := by decide +kernel
theorem dX9_sizeOf_66 : decode cX9_sizeOf 66 = .ok (.aload_n 0, 1) := by decide +kernel
theorem dX9_sizeOf_67 : decode cX9_sizeOf 67 = .ok (.iload_n 1, 1) := by decide +kernel
theorem dX9_sizeOf_68 : decode cX9_sizeOf 68 = .ok (.invokevirtual 272, 3) := by decide +kernel
theorem dX9_sizeOf_71 : decode cX9_sizeOf 71 = .ok (.imul, 1) := by decide +kernel
theorem dX9_sizeOf_72 : decode cX9_sizeOf 72 = .ok (.ireturn, 1) := by decide +kernel
theorem dX9_sizeOf_73 : decode cX9_sizeOf 73 = .ok (.aload_n 0, 1) := by decide +kernel
theorem dX9_sizeOf_74 : decode cX9_sizeOf 74 = .ok (.iload_n 1, 1) := by decide +kernel
theorem dX9_sizeOf_75 : decode cX9_sizeOf 75 = .ok (.invokevirtual 269, 3) := by decide +kernel
theorem dX9_sizeOf_78 : decode cX9_sizeOf 78 = .ok (.ireturn, 1) := by decide +kernel
theorem dX9_lentMark_0 : decode cX9_lentMark 0 = .ok (.aload_n 0, 1) := by decide +kernel
theorem dX9_lentMark_1 : decode cX9_lentMark 1 = .ok (.bipush 20, 2) := by decide +kernel
theorem dX9_lentMark_3 : decode cX9_lentMark 3 = .ok (.invokevirtual 259, 3) := by decide +kernel
theorem dX9_lentMark_6 : decode cX9_lentMark 6 = .ok (.iload_n 1, 1) := by decide +kernel
theorem dX9_lentMark_7 : decode cX9_lentMark 7 = .ok (.ireturn, 1) := by decide +kernel
theorem dX9_doorMark_0 : decode cX9_doorMark 0 = .ok (.aload_n 0, 1) := by decide +kernel
theorem dX9_doorMark_1 : decode cX9_doorMark 1 = .ok (.bipush 21, 2) := by decide +kernel
theorem dX9_doorMark_3 : decode cX9_doorMark 3 = .ok (.invokevirtual 259, 3) := by decide +kernel
theorem dX9_doorMark_6 : decode cX9_doorMark 6 = .ok (.aload_n 0, 1) := by decide +kernel
theorem dX9_doorMark_7 : decode cX9_doorMark 7 = .ok (.iload_n 1, 1) := by decide +kernel
theorem dX9_doorMark_8 : decode cX9_doorMark 8 = .ok (.invokevirtual 275, 3) := by decide +kernel
theorem dX9_doorMark_11 : decode cX9_doorMark 11 = .ok (.aload_n 0, 1) := by decide +kernel
theorem dX9_doorMark_12 : decode cX9_doorMark 12 = .ok (.getfield 7, 3) := by decide +kernel
theorem dX9_doorMark_15 : decode cX9_doorMark 15 = .ok (.bipush 33, 2) := by decide +kernel
theorem dX9_doorMark_17 : decode cX9_doorMark 17 = .ok (.iload_n 1, 1) := by decide +kernel
theorem dX9_doorMark_18 : decode cX9_doorMark 18 = .ok (.iadd, 1) := by decide +kernel
theorem dX9_doorMark_19 : decode cX9_doorMark 19 = .ok (.iaload, 1) := by decide +kernel
theorem dX9_doorMark_20 : decode cX9_doorMark 20 = .ok (.iadd, 1) := by decide +kernel
theorem dX9_doorMark_21 : decode cX9_doorMark 21 = .ok (.ireturn, 1) := by decide +kernel
theorem dX9_mark_0 : decode cX9_mark 0 = .ok (.aload_n 0, 1) := by decide +kernel
theorem dX9_mark_1 : decode cX9_mark 1 = .ok (.getfield 7, 3) := by decide +kernel
theorem dX9_mark_4 : decode cX9_mark 4 = .ok (.bipush 9, 2) := by decide +kernel
theorem dX9_mark_6 : decode cX9_mark 6 = .ok (.iload_n 1, 1) := by decide +kernel
theorem dX9_mark_7 : decode cX9_mark 7 = .ok (.iadd, 1) := by decide +kernel
theorem dX9_mark_8 : decode cX9_mark 8 = .ok (.iaload, 1) := by decide +kernel
theorem dX9_mark_9 : decode cX9_mark 9 = .ok (.lookupswitch 57 #[(2, 43), (3, 27)], 27) := by decide +kernel
theorem dX9_mark_36 : decode cX9_mark 36 = .ok (.aload_n 0, 1) := by decide +kernel
theorem dX9_mark_37 : decode cX9_mark 37 = .ok (.bipush 22, 2) := by decide +kernel
theorem dX9_mark_39 : decode cX9_mark 39 = .ok (.invokevirtual 259, 3) := by decide +kernel
theorem dX9_mark_42 : decode cX9_mark 42 = .ok (.aload_n 0, 1) := by decide +kernel
theorem dX9_mark_43 : decode cX9_mark 43 = .ok (.iload_n 1, 1) := by decide +kernel
theorem dX9_mark_44 : decode cX9_mark 44 = .ok (.invokevirtual 278, 3) := by decide +kernel
theorem dX9_mark_47 : decode cX9_mark 47 = .ok (.sipush 1000, 3) := by decide +kernel
theorem dX9_mark_50 : decode cX9_mark 50 = .ok (.isub, 1) := by decide +kernel
theorem dX9_mark_51 : decode cX9_mark 51 = .ok (.ireturn, 1) := by decide +kernel
theorem dX9_mark_52 : decode cX9_mark 52 = .ok (.aload_n 0, 1) := by decide +kernel
theorem dX9_mark_53 : decode cX9_mark 53 = .ok (.bipush 24, 2) := by decide +kernel
theorem dX9_mark_55 : decode cX9_mark 55 = .ok (.invokevirtual 259, 3) := by decide +kernel
theorem dX9_mark_58 : decode cX9_mark 58 = .ok (.iconst 2, 1) := by decide +kernel
theorem dX9_mark_59 : decode cX9_mark 59 = .ok (.aload_n 0, 1) := by decide +kernel
theorem dX9_mark_60 : decode cX9_mark 60 = .ok (.iload_n 1, 1) := by decide +kernel
theorem dX9_mark_61 : decode cX9_mark 61 = .ok (.invokevirtual 278, 3) := by decide +kernel
theorem dX9_mark_64 : decode cX9_mark 64 = .ok (.imul, 1) := by decide +kernel
theorem dX9_mark_65 : decode cX9_mark 65 = .ok (.ireturn, 1) := by decide +kernel
theorem dX9_mark_66 : decode cX9_mark 66 = .ok (.aload_n 0, 1) := by decide +kernel
theorem dX9_mark_67 : decode cX9_mark 67 = .ok (.iload_n 1, 1) := by decide +kernel
theorem dX9_mark_68 : decode cX9_mark 68 = .ok (.invokevirtual 278, 3) := by decide +kernel
theorem dX9_mark_71 : decode cX9_mark 71 = .ok (.ireturn, 1) := by decide +kernel
theorem dX9_wallMark_0 : decode cX9_wallMark 0 = .ok (.aload_n 0, 1) := by decide +kernel
theorem dX9_wallMark_1 : decode cX9_wallMark 1 = .ok (.bipush 23, 2) := by decide +kernel
theorem dX9_wallMark_3 : decode cX9_wallMark 3 = .ok (.invokevirtual 259, 3) := by decide +kernel
theorem dX9_wallMark_6 : decode cX9_wallMark 6 = .ok (.aload_n 0, 1) := by decide +kernel
theorem dX9_wallMark_7 : decode cX9_wallMark 7 = .ok (.iload_n 1, 1) := by decide +kernel
theorem dX9_wallMark_8 : decode cX9_wallMark 8 = .ok (.invokevirtual 275, 3) := by decide +kernel
theorem dX9_wallMark_11 : decode cX9_wallMark 11 = .ok (.istore_n 2, 1) := by decide +kernel
theorem dX9_wallMark_12 : decode cX9_wallMark 12 = .ok (.iload_n 2, 1) := by decide +kernel
end
section
theorem dX9_wallMark_13 : decode cX9_wallMark 13 = .ok (.aload_n 0, 1) := by decide +kernel
theorem dX9_wallMark_14 : decode cX9_wallMark 14 = .ok (.iload_n 1, 1) := by decide +kernel
theorem dX9_wallMark_15 : decode cX9_wallMark 15 = .ok (.invokevirtual 281, 3) := by decide +kernel
theorem dX9_wallMark_18 : decode cX9_wallMark 18 = .ok (.isub, 1) := by decide +kernel
theorem dX9_wallMark_19 : decode cX9_wallMark 19 = .ok (.ireturn, 1) := by decide +kernel
theorem dX9_ask_0 : decode cX9_ask 0 = .ok (.aload_n 0, 1) := by decide +kernel
theorem dX9_ask_1 : decode cX9_ask 1 = .ok (.iload_n 1, 1) := by decide +kernel
theorem dX9_ask_2 : decode cX9_ask 2 = .ok (.invokevirtual 193, 3) := by decide +kernel
theorem dX9_ask_5 : decode cX9_ask 5 = .ok (.ifCond .eq 13, 3) := by decide +kernel
theorem dX9_ask_8 : decode cX9_ask 8 = .ok (.iload_n 2, 1) := by decide +kernel
theorem dX9_ask_9 : decode cX9_ask 9 = .ok (.i2l, 1) := by decide +kernel
theorem dX9_ask_10 : decode cX9_ask 10 = .ok (.lconst 0, 1) := by decide +kernel
theorem dX9_ask_11 : decode cX9_ask 11 = .ok (.lconst 1, 1) := by decide +kernel
theorem dX9_ask_12 : decode cX9_ask 12 = .ok (.invokestatic 60, 3) := by decide +kernel
theorem dX9_ask_15 : decode cX9_ask 15 = .ok (.ifCond .ne 6, 3) := by decide +kernel
theorem dX9_ask_18 : decode cX9_ask 18 = .ok (.ldc 70, 2) := by decide +kernel
theorem dX9_ask_20 : decode cX9_ask 20 = .ok (.ireturn, 1) := by decide +kernel
theorem dX9_ask_21 : decode cX9_ask 21 = .ok (.aload_n 0, 1) := by decide +kernel
theorem dX9_ask_22 : decode cX9_ask 22 = .ok (.iconst 0, 1) := by decide +kernel
theorem dX9_ask_23 : decode cX9_ask 23 = .ok (.putfield 256, 3) := by decide +kernel
theorem dX9_ask_26 : decode cX9_ask 26 = .ok (.iload_n 2, 1) := by decide +kernel
theorem dX9_ask_27 : decode cX9_ask 27 = .ok (.ifCond .ne 11, 3) := by decide +kernel
theorem dX9_ask_30 : decode cX9_ask 30 = .ok (.aload_n 0, 1) := by decide +kernel
theorem dX9_ask_31 : decode cX9_ask 31 = .ok (.iload_n 1, 1) := by decide +kernel
theorem dX9_ask_32 : decode cX9_ask 32 = .ok (.invokevirtual 281, 3) := by decide +kernel
theorem dX9_ask_35 : decode cX9_ask 35 = .ok (.goto 25, 3) := by decide +kernel
theorem dX9_ask_38 : decode cX9_ask 38 = .ok (.aload_n 0, 1) := by decide +kernel
theorem dX9_ask_39 : decode cX9_ask 39 = .ok (.iload_n 1, 1) := by decide +kernel
theorem dX9_ask_40 : decode cX9_ask 40 = .ok (.iconst 4, 1) := by decide +kernel
theorem dX9_ask_41 : decode cX9_ask 41 = .ok (.invokevirtual 253, 3) := by decide +kernel
theorem dX9_ask_44 : decode cX9_ask 44 = .ok (.ifCond .eq 11, 3) := by decide +kernel
theorem dX9_ask_47 : decode cX9_ask 47 = .ok (.aload_n 0, 1) := by decide +kernel
theorem dX9_ask_48 : decode cX9_ask 48 = .ok (.iload_n 1, 1) := by decide +kernel
theorem dX9_ask_49 : decode cX9_ask 49 = .ok (.invokevirtual 284, 3) := by decide +kernel
theorem dX9_ask_52 : decode cX9_ask 52 = .ok (.goto 8, 3) := by decide +kernel
theorem dX9_ask_55 : decode cX9_ask 55 = .ok (.aload_n 0, 1) := by decide +kernel
theorem dX9_ask_56 : decode cX9_ask 56 = .ok (.iload_n 1, 1) := by decide +kernel
theorem dX9_ask_57 : decode cX9_ask 57 = .ok (.invokevirtual 266, 3) := by decide +kernel
theorem dX9_ask_60 : decode cX9_ask 60 = .ok (.ireturn, 1) := by decide +kernel
theorem dX9_trace_0 : decode cX9_trace 0 = .ok (.iload_n 1, 1) := by decide +kernel
theorem dX9_trace_1 : decode cX9_trace 1 = .ok (.i2l, 1) := by decide +kernel
theorem dX9_trace_2 : decode cX9_trace 2 = .ok (.lconst 0, 1) := by decide +kernel
theorem dX9_trace_3 : decode cX9_trace 3 = .ok (.aload_n 0, 1) := by decide +kernel
theorem dX9_trace_4 : decode cX9_trace 4 = .ok (.getfield 256, 3) := by decide +kernel
theorem dX9_trace_7 : decode cX9_trace 7 = .ok (.iconst 1, 1) := by decide +kernel
theorem dX9_trace_8 : decode cX9_trace 8 = .ok (.isub, 1) := by decide +kernel
theorem dX9_trace_9 : decode cX9_trace 9 = .ok (.i2l, 1) := by decide +kernel
theorem dX9_trace_10 : decode cX9_trace 10 = .ok (.invokestatic 60, 3) := by decide +kernel
theorem dX9_trace_13 : decode cX9_trace 13 = .ok (.ifCond .eq 12, 3) := by decide +kernel
theorem dX9_trace_16 : decode cX9_trace 16 = .ok (.aload_n 0, 1) := by decide +kernel
theorem dX9_trace_17 : decode cX9_trace 17 = .ok (.getfield 29, 3) := by decide +kernel
theorem dX9_trace_20 : decode cX9_trace 20 = .ok (.iload_n 1, 1) := by decide +kernel
theorem dX9_trace_21 : decode cX9_trace 21 = .ok (.iaload, 1) := by decide +kernel
theorem dX9_trace_22 : decode cX9_trace 22 = .ok (.goto 5, 3) := by decide +kernel
theorem dX9_trace_25 : decode cX9_trace 25 = .ok (.ldc 128, 2) := by decide +kernel
theorem dX9_trace_27 : decode cX9_trace 27 = .ok (.ireturn, 1) := by decide +kernel
theorem dX9_gotByAll_0 : decode cX9_gotByAll 0 = .ok (.iconst 0, 1) := by decide +kernel
theorem dX9_gotByAll_1 : decode cX9_gotByAll 1 = .ok (.istore_n 1, 1) := by decide +kernel
theorem dX9_gotByAll_2 : decode cX9_gotByAll 2 = .ok (.iconst 0, 1) := by decide +kernel
theorem dX9_gotByAll_3 : decode cX9_gotByAll 3 = .ok (.istore_n 2, 1) := by decide +kernel
theorem dX9_gotByAll_4 : decode cX9_gotByAll 4 = .ok (.iload_n 2, 1) := by decide +kernel
theorem dX9_gotByAll_5 : decode cX9_gotByAll 5 = .ok (.aload_n 0, 1) := by decide +kernel
theorem dX9_gotByAll_6 : decode cX9_gotByAll 6 = .ok (.getfield 7, 3) := by decide +kernel
theorem dX9_gotByAll_9 : decode cX9_gotByAll 9 = .ok (.iconst 1, 1) := by decide +kernel
theorem dX9_gotByAll_10 : decode cX9_gotByAll 10 = .ok (.iaload, 1) := by decide +kernel
theorem dX9_gotByAll_11 : decode cX9_gotByAll 11 = .ok (.if_icmp .ge 21, 3) := by decide +kernel
theorem dX9_gotByAll_14 : decode cX9_gotByAll 14 = .ok (.iload_n 1, 1) := by decide +kernel
theorem dX9_gotByAll_15 : decode cX9_gotByAll 15 = .ok (.aload_n 0, 1) := by decide +kernel
theorem dX9_gotByAll_16 : decode cX9_gotByAll 16 = .ok (.getfield 7, 3) := by decide +kernel
theorem dX9_gotByAll_19 : decode cX9_gotByAll 19 = .ok (.bipush 33, 2) := by decide +kernel
theorem dX9_gotByAll_21 : decode cX9_gotByAll 21 = .ok (.iload_n 2, 1) := by decide +kernel
theorem dX9_gotByAll_22 : decode cX9_gotByAll 22 = .ok (.iadd, 1) := by decide +kernel
theorem dX9_gotByAll_23 : decode cX9_gotByAll 23 = .ok (.iaload, 1) := by decide +kernel
theorem dX9_gotByAll_24 : decode cX9_gotByAll 24 = .ok (.iadd, 1) := by decide +kernel
theorem dX9_gotByAll_25 : decode cX9_gotByAll 25 = .ok (.istore_n 1, 1) := by decide +kernel
theorem dX9_gotByAll_26 : decode cX9_gotByAll 26 = .ok (.iinc 2 1, 3) := by decide +kernel
theorem dX9_gotByAll_29 : decode cX9_gotByAll 29 = .ok (.goto (-25), 3) := by decide +kernel
theorem dX9_gotByAll_32 : decode cX9_gotByAll 32 = .ok (.iload_n 1, 1) := by decide +kernel
theorem dX9_gotByAll_33 : decode cX9_gotByAll 33 = .ok (.ireturn, 1) := by decide +kernel
theorem dX9_count_0 : decode cX9_count 0 = .ok (.iconst 0, 1) := by decide +kernel
theorem dX9_count_1 : decode cX9_count 1 = .ok (.istore_n 2, 1) := by decide +kernel
theorem dX9_count_2 : decode cX9_count 2 = .ok (.iload_n 1, 1) := by decide +kernel
theorem dX9_count_3 : decode cX9_count 3 = .ok (.tableswitch 144 0 9 #[53, 86, 93, 100, 108, 116, 122, 127, 132, 139], 53) := by decide +kernel
theorem dX9_count_56 : decode cX9_count 56 = .ok (.iconst 0, 1) := by decide +kernel
theorem dX9_count_57 : decode cX9_count 57 = .ok (.istore_n 3, 1) := by decide +kernel
theorem dX9_count_58 : decode cX9_count 58 = .ok (.iload_n 3, 1) := by decide +kernel
theorem dX9_count_59 : decode cX9_count 59 = .ok (.bipush 8, 2) := by decide +kernel
theorem dX9_count_61 : decode cX9_count 61 = .ok (.if_icmp .ge 26, 3) := by decide +kernel
theorem dX9_count_64 : decode cX9_count 64 = .ok (.iload_n 2, 1) := by decide +kernel
theorem dX9_count_65 : decode cX9_count 65 = .ok (.aload_n 0, 1) := by decide +kernel
theorem dX9_count_66 : decode cX9_count 66 = .ok (.getfield 20, 3) := by decide +kernel
theorem dX9_count_69 : decode cX9_count 69 = .ok (.iload_n 3, 1) := by decide +kernel
theorem dX9_count_70 : decode cX9_count 70 = .ok (.iaload, 1) := by decide +kernel
theorem dX9_count_71 : decode cX9_count 71 = .ok (.ifCond .ge 7, 3) := by decide +kernel
theorem dX9_count_74 : decode cX9_count 74 = .ok (.iconst 0, 1) := by decide +kernel
theorem dX9_count_75 : decode cX9_count 75 = .ok (.goto 4, 3) := by decide +kernel
theorem dX9_count_78 : decode cX9_count 78 = .ok (.iconst 1, 1) := by decide +kernel
theorem dX9_count_79 : decode cX9_count 79 = .ok (.iadd, 1) := by decide +kernel
theorem dX9_count_80 : decode cX9_count 80 = .ok (.istore_n 2, 1) := by decide +kernel
theorem dX9_count_81 : decode cX9_count 81 = .ok (.iinc 3 1, 3) := by decide +kernel
theorem dX9_count_84 : decode cX9_count 84 = .ok (.goto (-26), 3) := by decide +kernel
theorem dX9_count_87 : decode cX9_count 87 = .ok (.iload_n 2, 1) := by decide +kernel
theorem dX9_count_88 : decode cX9_count 88 = .ok (.ireturn, 1) := by decide +kernel
theorem dX9_count_89 : decode cX9_count 89 = .ok (.aload_n 0, 1) := by decide +kernel
theorem dX9_count_90 : decode cX9_count 90 = .ok (.getfield 7, 3) := by decide +kernel
theorem dX9_count_93 : decode cX9_count 93 = .ok (.iconst 0, 1) := by decide +kernel
theorem dX9_count_94 : decode cX9_count 94 = .ok (.iaload, 1) := by decide +kernel
theorem dX9_count_95 : decode cX9_count 95 = .ok (.ireturn, 1) := by decide +kernel
theorem dX9_count_96 : decode cX9_count 96 = .ok (.aload_n 0, 1) := by decide +kernel
theorem dX9_count_97 : decode cX9_count 97 = .ok (.getfield 7, 3) := by decide +kernel
theorem dX9_count_100 : decode cX9_count 100 = .ok (.iconst 1, 1) := by decide +kernel
theorem dX9_count_101 : decode cX9_count 101 = .ok (.iaload, 1) := by decide +kernel
theorem dX9_count_102 : decode cX9_count 102 = .ok (.ireturn, 1) := by decide +kernel
theorem dX9_count_103 : decode cX9_count 103 = .ok (.aload_n 0, 1) := by decide +kernel
theorem dX9_count_104 : decode cX9_count 104 = .ok (.getfield 7, 3) := by decide +kernel
theorem dX9_count_107 : decode cX9_count 107 = .ok (.bipush 7, 2) := by decide +kernel
theorem dX9_count_109 : decode cX9_count 109 = .ok (.iaload, 1) := by decide +kernel
theorem dX9_count_110 : decode cX9_count 110 = .ok (.ireturn, 1) := by decide +kernel
theorem dX9_count_111 : decode cX9_count 111 = .ok (.aload_n 0, 1) := by decide +kernel
theorem dX9_count_112 : decode cX9_count 112 = .ok (.getfield 7, 3) := by decide +kernel
theorem dX9_count_115 : decode cX9_count 115 = .ok (.bipush 8, 2) := by decide +kernel
theorem dX9_count_117 : decode cX9_count 117 = .ok (.iaload, 1) := by decide +kernel
theorem dX9_count_118 : decode cX9_count 118 = .ok (.ireturn, 1) := by decide +kernel
theorem dX9_count_119 : decode cX9_count 119 = .ok (.aload_n 0, 1) := by decide +kernel
theorem dX9_count_120 : decode cX9_count 120 = .ok (.iconst 0, 1) := by decide +kernel
theorem dX9_count_121 : decode cX9_count 121 = .ok (.invokevirtual 176, 3) := by decide +kernel
theorem dX9_count_124 : decode cX9_count 124 = .ok (.ireturn, 1) := by decide +kernel
theorem dX9_count_125 : decode cX9_count 125 = .ok (.aload_n 0, 1) := by decide +kernel
theorem dX9_count_126 : decode cX9_count 126 = .ok (.getfield 154, 3) := by decide +kernel
theorem dX9_count_129 : decode cX9_count 129 = .ok (.ireturn, 1) := by decide +kernel
theorem dX9_count_130 : decode cX9_count 130 = .ok (.aload_n 0, 1) := by decide +kernel
theorem dX9_count_131 : decode cX9_count 131 = .ok (.getfield 88, 3) := by decide +kernel
theorem dX9_count_134 : decode cX9_count 134 = .ok (.ireturn, 1) := by decide +kernel
theorem dX9_count_135 : decode cX9_count 135 = .ok (.aload_n 0, 1) := by decide +kernel
theorem dX9_count_136 : decode cX9_count 136 = .ok (.getfield 7, 3) := by decide +kernel
theorem dX9_count_139 : decode cX9_count 139 = .ok (.iconst 4, 1) := by decide +kernel
theorem dX9_count_140 : decode cX9_count 140 = .ok (.iaload, 1) := by decide +kernel
theorem dX9_count_141 : decode cX9_count 141 = .ok (.ireturn, 1) := by decide +kernel
theorem dX9_count_142 : decode cX9_count 142 = .ok (.aload_n 0, 1) := by decide +kernel
theorem dX9_count_143 : decode cX9_count 143 = .ok (.invokevirtual 287, 3) := by decide +kernel
theorem dX9_count_146 : decode cX9_count 146 = .ok (.ireturn, 1) := by decide +kernel
theorem dX9_count_147 : decode cX9_count 147 = .ok (.ldc 70, 2) := by decide +kernel
theorem dX9_count_149 : decode cX9_count 149 = .ok (.ireturn, 1) := by decide +kernel
theorem dX9_status_0 : decode cX9_status 0 = .ok (.aload_n 0, 1) := by decide +kernel
theorem dX9_status_1 : decode cX9_status 1 = .ok (.getfield 53, 3) := by decide +kernel
theorem dX9_status_4 : decode cX9_status 4 = .ok (.ireturn, 1) := by decide +kernel
theorem dJ6_lowestOneBit_0f7a4_0 : decode cJ6_lowestOneBit_0f7a4 0 = .ok (.iload_n 0, 1) := by decide +kernel
theorem dJ6_lowestOneBit_0f7a4_1 : decode cJ6_lowestOneBit_0f7a4 1 = .ok (.iload_n 0, 1) := by decide +kernel
theorem dJ6_lowestOneBit_0f7a4_2 : decode cJ6_lowestOneBit_0f7a4 2 = .ok (.ineg, 1) := by decide +kernel
theorem dJ6_lowestOneBit_0f7a4_3 : decode cJ6_lowestOneBit_0f7a4 3 = .ok (.iand, 1) := by decide +kernel
theorem dJ6_lowestOneBit_0f7a4_4 : decode cJ6_lowestOneBit_0f7a4 4 = .ok (.ireturn, 1) := by decide +kernel
theorem dJ6_bitCount_0f7a4_0 : decode cJ6_bitCount_0f7a4 0 = .ok (.iload_n 0, 1) := by decide +kernel
theorem dJ6_bitCount_0f7a4_1 : decode cJ6_bitCount_0f7a4 1 = .ok (.iload_n 0, 1) := by decide +kernel
theorem dJ6_bitCount_0f7a4_2 : decode cJ6_bitCount_0f7a4 2 = .ok (.iconst 1, 1) := by decide +kernel
theorem dJ6_bitCount_0f7a4_3 : decode cJ6_bitCount_0f7a4 3 = .ok (.iushr, 1) := by decide +kernel
theorem dJ6_bitCount_0f7a4_4 : decode cJ6_bitCount_0f7a4 4 = .ok (.ldc_w 265, 3) := by decide +kernel
theorem dJ6_bitCount_0f7a4_7 : decode cJ6_bitCount_0f7a4 7 = .ok (.iand, 1) := by decide +kernel
theorem dJ6_bitCount_0f7a4_8 : decode cJ6_bitCount_0f7a4 8 = .ok (.isub, 1) := by decide +kernel
theorem dJ6_bitCount_0f7a4_9 : decode cJ6_bitCount_0f7a4 9 = .ok (.istore_n 0, 1) := by decide +kernel
theorem dJ6_bitCount_0f7a4_10 : decode cJ6_bitCount_0f7a4 10 = .ok (.iload_n 0, 1) := by decide +kernel
theorem dJ6_bitCount_0f7a4_11 : decode cJ6_bitCount_0f7a4 11 = .ok (.ldc_w 266, 3) := by decide +kernel
theorem dJ6_bitCount_0f7a4_14 : decode cJ6_bitCount_0f7a4 14 = .ok (.iand, 1) := by decide +kernel
theorem dJ6_bitCount_0f7a4_15 : decode cJ6_bitCount_0f7a4 15 = .ok (.iload_n 0, 1) := by decide +kernel
theorem dJ6_bitCount_0f7a4_16 : decode cJ6_bitCount_0f7a4 16 = .ok (.iconst 2, 1) := by decide +kernel
theorem dJ6_bitCount_0f7a4_17 : decode cJ6_bitCount_0f7a4 17 = .ok (.iushr, 1) := by decide +kernel
theorem dJ6_bitCount_0f7a4_18 : decode cJ6_bitCount_0f7a4 18 = .ok (.ldc_w 266, 3) := by decide +kernel
theorem dJ6_bitCount_0f7a4_21 : decode cJ6_bitCount_0f7a4 21 = .ok (.iand, 1) := by decide +kernel
theorem dJ6_bitCount_0f7a4_22 : decode cJ6_bitCount_0f7a4 22 = .ok (.iadd, 1) := by decide +kernel
theorem dJ6_bitCount_0f7a4_23 : decode cJ6_bitCount_0f7a4 23 = .ok (.istore_n 0, 1) := by decide +kernel
theorem dJ6_bitCount_0f7a4_24 : decode cJ6_bitCount_0f7a4 24 = .ok (.iload_n 0, 1) := by decide +kernel
theorem dJ6_bitCount_0f7a4_25 : decode cJ6_bitCount_0f7a4 25 = .ok (.iload_n 0, 1) := by decide +kernel
theorem dJ6_bitCount_0f7a4_26 : decode cJ6_bitCount_0f7a4 26 = .ok (.iconst 4, 1) := by decide +kernel
theorem dJ6_bitCount_0f7a4_27 : decode cJ6_bitCount_0f7a4 27 = .ok (.iushr, 1) := by decide +kernel
theorem dJ6_bitCount_0f7a4_28 : decode cJ6_bitCount_0f7a4 28 = .ok (.iadd, 1) := by decide +kernel
theorem dJ6_bitCount_0f7a4_29 : decode cJ6_bitCount_0f7a4 29 = .ok (.ldc_w 267, 3) := by decide +kernel
theorem dJ6_bitCount_0f7a4_32 : decode cJ6_bitCount_0f7a4 32 = .ok (.iand, 1) := by decide +kernel
theorem dJ6_bitCount_0f7a4_33 : decode cJ6_bitCount_0f7a4 33 = .ok (.istore_n 0, 1) := by decide +kernel
theorem dJ6_bitCount_0f7a4_34 : decode cJ6_bitCount_0f7a4 34 = .ok (.iload_n 0, 1) := by decide +kernel
theorem dJ6_bitCount_0f7a4_35 : decode cJ6_bitCount_0f7a4 35 = .ok (.iload_n 0, 1) := by decide +kernel
theorem dJ6_bitCount_0f7a4_36 : decode cJ6_bitCount_0f7a4 36 = .ok (.bipush 8, 2) := by decide +kernel
theorem dJ6_bitCount_0f7a4_38 : decode cJ6_bitCount_0f7a4 38 = .ok (.iushr, 1) := by decide +kernel
theorem dJ6_bitCount_0f7a4_39 : decode cJ6_bitCount_0f7a4 39 = .ok (.iadd, 1) := by decide +kernel
theorem dJ6_bitCount_0f7a4_40 : decode cJ6_bitCount_0f7a4 40 = .ok (.istore_n 0, 1) := by decide +kernel
theorem dJ6_bitCount_0f7a4_41 : decode cJ6_bitCount_0f7a4 41 = .ok (.iload_n 0, 1) := by decide +kernel
theorem dJ6_bitCount_0f7a4_42 : decode cJ6_bitCount_0f7a4 42 = .ok (.iload_n 0, 1) := by decide +kernel
theorem dJ6_bitCount_0f7a4_43 : decode cJ6_bitCount_0f7a4 43 = .ok (.bipush 16, 2) := by decide +kernel
theorem dJ6_bitCount_0f7a4_45 : decode cJ6_bitCount_0f7a4 45 = .ok (.iushr, 1) := by decide +kernel
theorem dJ6_bitCount_0f7a4_46 : decode cJ6_bitCount_0f7a4 46 = .ok (.iadd, 1) := by decide +kernel
theorem dJ6_bitCount_0f7a4_47 : decode cJ6_bitCount_0f7a4 47 = .ok (.istore_n 0, 1) := by decide +kernel
theorem dJ6_bitCount_0f7a4_48 : decode cJ6_bitCount_0f7a4 48 = .ok (.iload_n 0, 1) := by decide +kernel
theorem dJ6_bitCount_0f7a4_49 : decode cJ6_bitCount_0f7a4 49 = .ok (.bipush 63, 2) := by decide +kernel
theorem dJ6_bitCount_0f7a4_51 : decode cJ6_bitCount_0f7a4 51 = .ok (.iand, 1) := by decide +kernel
theorem dJ6_bitCount_0f7a4_52 : decode cJ6_bitCount_0f7a4 52 = .ok (.ireturn, 1) := by decide +kernel
theorem dJ9_max_7cf53_0 : decode cJ9_max_7cf53 0 = .ok (.iload_n 0, 1) := by decide +kernel
theorem dJ9_max_7cf53_1 : decode cJ9_max_7cf53 1 = .ok (.iload_n 1, 1) := by decide +kernel
theorem dJ9_max_7cf53_2 : decode cJ9_max_7cf53 2 = .ok (.if_icmp .lt 7, 3) := by decide +kernel
theorem dJ9_max_7cf53_5 : decode cJ9_max_7cf53 5 = .ok (.iload_n 0, 1) := by decide +kernel
theorem dJ9_max_7cf53_6 : decode cJ9_max_7cf53 6 = .ok (.goto 4, 3) := by decide +kernel
theorem dJ9_max_7cf53_9 : decode cJ9_max_7cf53 9 = .ok (.iload_n 1, 1) := by decide +kernel
theorem dJ9_max_7cf53_10 : decode cJ9_max_7cf53 10 = .ok (.ireturn, 1) := by decide +kernel
theorem dJ9_min_7cf53_0 : decode cJ9_min_7cf53 0 = .ok (.iload_n 0, 1) := by decide +kernel
theorem dJ9_min_7cf53_1 : decode cJ9_min_7cf53 1 = .ok (.iload_n 1, 1) := by decide +kernel
theorem dJ9_min_7cf53_2 : decode cJ9_min_7cf53 2 = .ok (.if_icmp .gt 7, 3) := by decide +kernel
theorem dJ9_min_7cf53_5 : decode cJ9_min_7cf53 5 = .ok (.iload_n 0, 1) := by decide +kernel
theorem dJ9_min_7cf53_6 : decode cJ9_min_7cf53 6 = .ok (.goto 4, 3) := by decide +kernel
theorem dJ9_min_7cf53_9 : decode cJ9_min_7cf53 9 = .ok (.iload_n 1, 1) := by decide +kernel
theorem dJ9_min_7cf53_10 : decode cJ9_min_7cf53 10 = .ok (.ireturn, 1) := by decide +kernel
theorem dL_law_0 : decode cL_law 0 = .ok (.new 7, 3) := by decide +kernel
theorem dL_law_3 : decode cL_law 3 = .ok (.dup, 1) := by decide +kernel
theorem dL_law_4 : decode cL_law 4 = .ok (.invokespecial 9, 3) := by decide +kernel
theorem dL_law_7 : decode cL_law 7 = .ok (.astore_n 1, 1) := by decide +kernel
theorem dL_law_8 : decode cL_law 8 = .ok (.new 10, 3) := by decide +kernel
theorem dL_law_11 : decode cL_law 11 = .ok (.dup, 1) := by decide +kernel
theorem dL_law_12 : decode cL_law 12 = .ok (.invokespecial 12, 3) := by decide +kernel
theorem dL_law_15 : decode cL_law 15 = .ok (.astore_n 2, 1) := by decide +kernel
theorem dL_law_16 : decode cL_law 16 = .ok (.iconst 0, 1) := by decide +kernel
theorem dL_law_17 : decode cL_law 17 = .ok (.istore_n 3, 1) := by decide +kernel
theorem dL_law_18 : decode cL_law 18 = .ok (.iload_n 3, 1) := by decide +kernel
theorem dL_law_19 : decode cL_law 19 = .ok (.aload_n 0, 1) := by decide +kernel
theorem dL_law_20 : decode cL_law 20 = .ok (.arraylength, 1) := by decide +kernel
theorem dL_law_21 : decode cL_law 21 = .ok (.bipush 6, 2) := by decide +kernel
theorem dL_law_23 : decode cL_law 23 = .ok (.isub, 1) := by decide +kernel
theorem dL_law_24 : decode cL_law 24 = .ok (.if_icmp .gt 1282, 3) := by decide +kernel
theorem dL_law_27 : decode cL_law 27 = .ok (.aload_n 0, 1) := by decide +kernel
theorem dL_law_28 : decode cL_law 28 = .ok (.iload_n 3, 1) := by decide +kernel
theorem dL_law_29 : decode cL_law 29 = .ok (.iaload, 1) := by decide +kernel
theorem dL_law_30 : decode cL_law 30 = .ok (.bipush 63, 2) := by decide +kernel
theorem dL_law_32 : decode cL_law 32 = .ok (.iand, 1) := by decide +kernel
theorem dL_law_33 : decode cL_law 33 = .ok (.tableswitch 1267 0 35 #[159, 202, 245, 308, 331, 354, 367, 380, 403, 436, 479, 502, 515, 548, 581, 604, 637, 660, 683, 716, 759, 802, 845, 858, 881, 934, 987, 1030, 1073, 1096, 1119, 1142, 1175, 1208, 1231, 1254], 159) := by decide +kernel
theorem dL_law_192 : decode cL_law 192 = .ok (.aload_n 1, 1) := by decide +kernel
theorem dL_law_193 : decode cL_law 193 = .ok (.aload_n 0, 1) := by decide +kernel
theorem dL_law_194 : decode cL_law 194 = .ok (.iload_n 3, 1) := by decide +kernel
theorem dL_law_195 : decode cL_law 195 = .ok (.iconst 1, 1) := by decide +kernel
theorem dL_law_196 : decode cL_law 196 = .ok (.iadd, 1) := by decide +kernel
theorem dL_law_197 : decode cL_law 197 = .ok (.iaload, 1) := by decide +kernel
theorem dL_law_198 : decode cL_law 198 = .ok (.aload_n 0, 1) := by decide +kernel
theorem dL_law_199 : decode cL_law 199 = .ok (.iload_n 3, 1) := by decide +kernel
theorem dL_law_200 : decode cL_law 200 = .ok (.iconst 2, 1) := by decide +kernel
theorem dL_law_201 : decode cL_law 201 = .ok (.iadd, 1) := by decide +kernel
theorem dL_law_202 : decode cL_law 202 = .ok (.iaload, 1) := by decide +kernel
theorem dL_law_203 : decode cL_law 203 = .ok (.aload_n 0, 1) := by decide +kernel
theorem dL_law_204 : decode cL_law 204 = .ok (.iload_n 3, 1) := by decide +kernel
theorem dL_law_205 : decode cL_law 205 = .ok (.iconst 3, 1) := by decide +kernel
theorem dL_law_206 : decode cL_law 206 = .ok (.iadd, 1) := by decide +kernel
theorem dL_law_207 : decode cL_law 207 = .ok (.iaload, 1) := by decide +kernel
theorem dL_law_208 : decode cL_law 208 = .ok (.invokevirtual 13, 3) := by decide +kernel
theorem dL_law_211 : decode cL_law 211 = .ok (.aload_n 2, 1) := by decide +kernel
theorem dL_law_212 : decode cL_law 212 = .ok (.aload_n 0, 1) := by decide +kernel
theorem dL_law_213 : decode cL_law 213 = .ok (.iload_n 3, 1) := by decide +kernel
theorem dL_law_214 : decode cL_law 214 = .ok (.iconst 1, 1) := by decide +kernel
theorem dL_law_215 : decode cL_law 215 = .ok (.iadd, 1) := by decide +kernel
theorem dL_law_216 : decode cL_law 216 = .ok (.iaload, 1) := by decide +kernel
theorem dL_law_217 : decode cL_law 217 = .ok (.aload_n 0, 1) := by decide +kernel
theorem dL_law_218 : decode cL_law 218 = .ok (.iload_n 3, 1) := by decide +kernel
theorem dL_law_219 : decode cL_law 219 = .ok (.iconst 2, 1) := by decide +kernel
theorem dL_law_220 : decode cL_law 220 = .ok (.iadd, 1) := by decide +kernel
theorem dL_law_221 : decode cL_law 221 = .ok (.iaload, 1) := by decide +kernel
theorem dL_law_222 : decode cL_law 222 = .ok (.aload_n 0, 1) := by decide +kernel
theorem dL_law_223 : decode cL_law 223 = .ok (.iload_n 3, 1) := by decide +kernel
theorem dL_law_224 : decode cL_law 224 = .ok (.iconst 3, 1) := by decide +kernel
theorem dL_law_225 : decode cL_law 225 = .ok (.iadd, 1) := by decide +kernel
theorem dL_law_226 : decode cL_law 226 = .ok (.iaload, 1) := by decide +kernel
theorem dL_law_227 : decode cL_law 227 = .ok (.invokevirtual 17, 3) := by decide +kernel
theorem dL_law_230 : decode cL_law 230 = .ok (.if_icmp .eq 1070, 3) := by decide +kernel
theorem dL_law_233 : decode cL_law 233 = .ok (.iconst 0, 1) := by decide +kernel
theorem dL_law_234 : decode cL_law 234 = .ok (.ireturn, 1) := by decide +kernel
theorem dL_law_235 : decode cL_law 235 = .ok (.aload_n 1, 1) := by decide +kernel
theorem dL_law_236 : decode cL_law 236 = .ok (.aload_n 0, 1) := by decide +kernel
theorem dL_law_237 : decode cL_law 237 = .ok (.iload_n 3, 1) := by decide +kernel
theorem dL_law_238 : decode cL_law 238 = .ok (.iconst 1, 1) := by decide +kernel
theorem dL_law_239 : decode cL_law 239 = .ok (.iadd, 1) := by decide +kernel
theorem dL_law_240 : decode cL_law 240 = .ok (.iaload, 1) := by decide +kernel
theorem dL_law_241 : decode cL_law 241 = .ok (.aload_n 0, 1) := by decide +kernel
theorem dL_law_242 : decode cL_law 242 = .ok (.iload_n 3, 1) := by decide +kernel
theorem dL_law_243 : decode cL_law 243 = .ok (.iconst 2, 1) := by decide +kernel
theorem dL_law_244 : decode cL_law 244 = .ok (.iadd, 1) := by decide +kernel
theorem dL_law_245 : decode cL_law 245 = .ok (.iaload, 1) := by decide +kernel
theorem dL_law_246 : decode cL_law 246 = .ok (.aload_n 0, 1) := by decide +kernel
theorem dL_law_247 : decode cL_law 247 = .ok (.iload_n 3, 1) := by decide +kernel
theorem dL_law_248 : decode cL_law 248 = .ok (.iconst 3, 1) := by decide +kernel
theorem dL_law_249 : decode cL_law 249 = .ok (.iadd, 1) := by decide +kernel
theorem dL_law_250 : decode cL_law 250 = .ok (.iaload, 1) := by decide +kernel
theorem dL_law_251 : decode cL_law 251 = .ok (.invokevirtual 18, 3) := by decide +kernel
theorem dL_law_254 : decode cL_law 254 = .ok (.aload_n 2, 1) := by decide +kernel
theorem dL_law_255 : decode cL_law 255 = .ok (.aload_n 0, 1) := by decide +kernel
theorem dL_law_256 : decode cL_law 256 = .ok (.iload_n 3, 1) := by decide +kernel
theorem dL_law_257 : decode cL_law 257 = .ok (.iconst 1, 1) := by decide +kernel
theorem dL_law_258 : decode cL_law 258 = .ok (.iadd, 1) := by decide +kernel
theorem dL_law_259 : decode cL_law 259 = .ok (.iaload, 1) := by decide +kernel
theorem dL_law_260 : decode cL_law 260 = .ok (.aload_n 0, 1) := by decide +kernel
theorem dL_law_261 : decode cL_law 261 = .ok (.iload_n 3, 1) := by decide +kernel
theorem dL_law_262 : decode cL_law 262 = .ok (.iconst 2, 1) := by decide +kernel
theorem dL_law_263 : decode cL_law 263 = .ok (.iadd, 1) := by decide +kernel
theorem dL_law_264 : decode cL_law 264 = .ok (.iaload, 1) := by decide +kernel
theorem dL_law_265 : decode cL_law 265 = .ok (.aload_n 0, 1) := by decide +kernel
theorem dL_law_266 : decode cL_law 266 = .ok (.iload_n 3, 1) := by decide +kernel
theorem dL_law_267 : decode cL_law 267 = .ok (.iconst 3, 1) := by decide +kernel
theorem dL_law_268 : decode cL_law 268 = .ok (.iadd, 1) := by decide +kernel
theorem dL_law_269 : decode cL_law 269 = .ok (.iaload, 1) := by decide +kernel
theorem dL_law_270 : decode cL_law 270 = .ok (.invokevirtual 21, 3) := by decide +kernel
theorem dL_law_273 : decode cL_law 273 = .ok (.if_icmp .eq 1027, 3) := by decide +kernel
theorem dL_law_276 : decode cL_law 276 = .ok (.iconst 0, 1) := by decide +kernel
theorem dL_law_277 : decode cL_law 277 = .ok (.ireturn, 1) := by decide +kernel
theorem dL_law_278 : decode cL_law 278 = .ok (.aload_n 1, 1) := by decide +kernel
theorem dL_law_279 : decode cL_law 279 = .ok (.aload_n 0, 1) := by decide +kernel
theorem dL_law_280 : decode cL_law 280 = .ok (.iload_n 3, 1) := by decide +kernel
theorem dL_law_281 : decode cL_law 281 = .ok (.iconst 1, 1) := by decide +kernel
theorem dL_law_282 : decode cL_law 282 = .ok (.iadd, 1) := by decide +kernel
theorem dL_law_283 : decode cL_law 283 = .ok (.iaload, 1) := by decide +kernel
theorem dL_law_284 : decode cL_law 284 = .ok (.aload_n 0, 1) := by decide +kernel
theorem dL_law_285 : decode cL_law 285 = .ok (.iload_n 3, 1) := by decide +kernel
theorem dL_law_286 : decode cL_law 286 = .ok (.iconst 2, 1) := by decide +kernel
theorem dL_law_287 : decode cL_law 287 = .ok (.iadd, 1) := by decide +kernel
theorem dL_law_288 : decode cL_law 288 = .ok (.iaload, 1) := by decide +kernel
theorem dL_law_289 : decode cL_law 289 = .ok (.aload_n 0, 1) := by decide +kernel
theorem dL_law_290 : decode cL_law 290 = .ok (.iload_n 3, 1) := by decide +kernel
theorem dL_law_291 : decode cL_law 291 = .ok (.iconst 3, 1) := by decide +kernel
theorem dL_law_292 : decode cL_law 292 = .ok (.iadd, 1) := by decide +kernel
theorem dL_law_293 : decode cL_law 293 = .ok (.iaload, 1) := by decide +kernel
theorem dL_law_294 : decode cL_law 294 = .ok (.aload_n 0, 1) := by decide +kernel
theorem dL_law_295 : decode cL_law 295 = .ok (.iload_n 3, 1) := by decide +kernel
theorem dL_law_296 : decode cL_law 296 = .ok (.iconst 4, 1) := by decide +kernel
theorem dL_law_297 : decode cL_law 297 = .ok (.iadd, 1) := by decide +kernel
theorem dL_law_298 : decode cL_law 298 = .ok (.iaload, 1) := by decide +kernel
theorem dL_law_299 : decode cL_law 299 = .ok (.aload_n 0, 1) := by decide +kernel
theorem dL_law_300 : decode cL_law 300 = .ok (.iload_n 3, 1) := by decide +kernel
theorem dL_law_301 : decode cL_law 301 = .ok (.iconst 5, 1) := by decide +kernel
theorem dL_law_302 : decode cL_law 302 = .ok (.iadd, 1) := by decide +kernel
theorem dL_law_303 : decode cL_law 303 = .ok (.iaload, 1) := by decide +kernel
theorem dL_law_304 : decode cL_law 304 = .ok (.invokevirtual 22, 3) := by decide +kernel
theorem dL_law_307 : decode cL_law 307 = .ok (.aload_n 2, 1) := by decide +kernel
theorem dL_law_308 : decode cL_law 308 = .ok (.aload_n 0, 1) := by decide +kernel
theorem dL_law_309 : decode cL_law 309 = .ok (.iload_n 3, 1) := by decide +kernel
theorem dL_law_310 : decode cL_law 310 = .ok (.iconst 1, 1) := by decide +kernel
theorem dL_law_311 : decode cL_law 311 = .ok (.iadd, 1) := by decide +kernel
theorem dL_law_312 : decode cL_law 312 = .ok (.iaload, 1) := by decide +kernel
theorem dL_law_313 : decode cL_law 313 = .ok (.aload_n 0, 1) := by decide +kernel
theorem dL_law_314 : decode cL_law 314 = .ok (.iload_n 3, 1) := by decide +kernel
theorem dL_law_315 : decode cL_law 315 = .ok (.iconst 2, 1) := by decide +kernel
theorem dL_law_316 : decode cL_law 316 = .ok (.iadd, 1) := by decide +kernel
theorem dL_law_317 : decode cL_law 317 = .ok (.iaload, 1) := by decide +kernel
theorem dL_law_318 : decode cL_law 318 = .ok (.aload_n 0, 1) := by decide +kernel
theorem dL_law_319 : decode cL_law 319 = .ok (.iload_n 3, 1) := by decide +kernel
theorem dL_law_320 : decode cL_law 320 = .ok (.iconst 3, 1) := by decide +kernel
theorem dL_law_321 : decode cL_law 321 = .ok (.iadd, 1) := by decide +kernel
theorem dL_law_322 : decode cL_law 322 = .ok (.iaload, 1) := by decide +kernel
theorem dL_law_323 : decode cL_law 323 = .ok (.aload_n 0, 1) := by decide +kernel
theorem dL_law_324 : decode cL_law 324 = .ok (.iload_n 3, 1) := by decide +kernel
theorem dL_law_325 : decode cL_law 325 = .ok (.iconst 4, 1) := by decide +kernel
theorem dL_law_326 : decode cL_law 326 = .ok (.iadd, 1) := by decide +kernel
theorem dL_law_327 : decode cL_law 327 = .ok (.iaload, 1) := by decide +kernel
theorem dL_law_328 : decode cL_law 328 = .ok (.aload_n 0, 1) := by decide +kernel
theorem dL_law_329 : decode cL_law 329 = .ok (.iload_n 3, 1) := by decide +kernel
theorem dL_law_330 : decode cL_law 330 = .ok (.iconst 5, 1) := by decide +kernel
theorem dL_law_331 : decode cL_law 331 = .ok (.iadd, 1) := by decide +kernel
theorem dL_law_332 : decode cL_law 332 = .ok (.iaload, 1) := by decide +kernel
theorem dL_law_333 : decode cL_law 333 = .ok (.invokevirtual 26, 3) := by decide +kernel
theorem dL_law_336 : decode cL_law 336 = .ok (.if_icmp .eq 964, 3) := by decide +kernel
theorem dL_law_339 : decode cL_law 339 = .ok (.iconst 0, 1) := by decide +kernel
theorem dL_law_340 : decode cL_law 340 = .ok (.ireturn, 1) := by decide +kernel
theorem dL_law_341 : decode cL_law 341 = .ok (.aload_n 1, 1) := by decide +kernel
theorem dL_law_342 : decode cL_law 342 = .ok (.aload_n 0, 1) := by decide +kernel
theorem dL_law_343 : decode cL_law 343 = .ok (.iload_n 3, 1) := by decide +kernel
theorem dL_law_344 : decode cL_law 344 = .ok (.iconst 1, 1) := by decide +kernel
theorem dL_law_345 : decode cL_law 345 = .ok (.iadd, 1) := by decide +kernel
theorem dL_law_346 : decode cL_law 346 = .ok (.iaload, 1) := by decide +kernel
theorem dL_law_347 : decode cL_law 347 = .ok (.invokevirtual 27, 3) := by decide +kernel
theorem dL_law_350 : decode cL_law 350 = .ok (.aload_n 2, 1) := by decide +kernel
theorem dL_law_351 : decode cL_law 351 = .ok (.aload_n 0, 1) := by decide +kernel
theorem dL_law_352 : decode cL_law 352 = .ok (.iload_n 3, 1) := by decide +kernel
theorem dL_law_353 : decode cL_law 353 = .ok (.iconst 1, 1) := by decide +kernel
theorem dL_law_354 : decode cL_law 354 = .ok (.iadd, 1) := by decide +kernel
theorem dL_law_355 : decode cL_law 355 = .ok (.iaload, 1) := by decide +kernel
theorem dL_law_356 : decode cL_law 356 = .ok (.invokevirtual 31, 3) := by decide +kernel
theorem dL_law_359 : decode cL_law 359 = .ok (.if_icmp .eq 941, 3) := by decide +kernel
theorem dL_law_362 : decode cL_law 362 = .ok (.iconst 0, 1) := by decide +kernel
theorem dL_law_363 : decode cL_law 363 = .ok (.ireturn, 1) := by decide +kernel
theorem dL_law_364 : decode cL_law 364 = .ok (.aload_n 1, 1) := by decide +kernel
theorem dL_law_365 : decode cL_law 365 = .ok (.aload_n 0, 1) := by decide +kernel
theorem dL_law_366 : decode cL_law 366 = .ok (.iload_n 3, 1) := by decide +kernel
theorem dL_law_367 : decode cL_law 367 = .ok (.iconst 1, 1) := by decide +kernel
theorem dL_law_368 : decode cL_law 368 = .ok (.iadd, 1) := by decide +kernel
theorem dL_law_369 : decode cL_law 369 = .ok (.iaload, 1) := by decide +kernel
theorem dL_law_370 : decode cL_law 370 = .ok (.invokevirtual 32, 3) := by decide +kernel
theorem dL_law_373 : decode cL_law 373 = .ok (.aload_n 2, 1) := by decide +kernel
theorem dL_law_374 : decode cL_law 374 = .ok (.aload_n 0, 1) := by decide +kernel
theorem dL_law_375 : decode cL_law 375 = .ok (.iload_n 3, 1) := by decide +kernel
theorem dL_law_376 : decode cL_law 376 = .ok (.iconst 1, 1) := by decide +kernel
theorem dL_law_377 : decode cL_law 377 = .ok (.iadd, 1) := by decide +kernel
theorem dL_law_378 : decode cL_law 378 = .ok (.iaload, 1) := by decide +kernel
theorem dL_law_379 : decode cL_law 379 = .ok (.invokevirtual 35, 3) := by decide +kernel
theorem dL_law_382 : decode cL_law 382 = .ok (.if_icmp .eq 918, 3) := by decide +kernel
theorem dL_law_385 : decode cL_law 385 = .ok (.iconst 0, 1) := by decide +kernel
theorem dL_law_386 : decode cL_law 386 = .ok (.ireturn, 1) := by decide +kernel
theorem dL_law_387 : decode cL_law 387 = .ok (.aload_n 1, 1) := by decide +kernel
theorem dL_law_388 : decode cL_law 388 = .ok (.invokevirtual 36, 3) := by decide +kernel
theorem dL_law_391 : decode cL_law 391 = .ok (.aload_n 2, 1) := by decide +kernel
theorem dL_law_392 : decode cL_law 392 = .ok (.invokevirtual 40, 3) := by decide +kernel
theorem dL_law_395 : decode cL_law 395 = .ok (.if_icmp .eq 905, 3) := by decide +kernel
theorem dL_law_398 : decode cL_law 398 = .ok (.iconst 0, 1) := by decide +kernel
theorem dL_law_399 : decode cL_law 399 = .ok (.ireturn, 1) := by decide +kernel
theorem dL_law_400 : decode cL_law 400 = .ok (.aload_n 1, 1) := by decide +kernel
theorem dL_law_401 : decode cL_law 401 = .ok (.invokevirtual 41, 3) := by decide +kernel
theorem dL_law_404 : decode cL_law 404 = .ok (.aload_n 2, 1) := by decide +kernel
theorem dL_law_405 : decode cL_law 405 = .ok (.invokevirtual 44, 3) := by decide +kernel
theorem dL_law_408 : decode cL_law 408 = .ok (.if_icmp .eq 892, 3) := by decide +kernel
theorem dL_law_411 : decode cL_law 411 = .ok (.iconst 0, 1) := by decide +kernel
theorem dL_law_412 : decode cL_law 412 = .ok (.ireturn, 1) := by decide +kernel
theorem dL_law_413 : decode cL_law 413 = .ok (.aload_n 1, 1) := by decide +kernel
theorem dL_law_414 : decode cL_law 414 = .ok (.aload_n 0, 1) := by decide +kernel
theorem dL_law_415 : decode cL_law 415 = .ok (.iload_n 3, 1) := by decide +kernel
theorem dL_law_416 : decode cL_law 416 = .ok (.iconst 1, 1) := by decide +kernel
theorem dL_law_417 : decode cL_law 417 = .ok (.iadd, 1) := by decide +kernel
theorem dL_law_418 : decode cL_law 418 = .ok (.iaload, 1) := by decide +kernel
theorem dL_law_419 : decode cL_law 419 = .ok (.invokevirtual 45, 3) := by decide +kernel
theorem dL_law_422 : decode cL_law 422 = .ok (.aload_n 2, 1) := by decide +kernel
theorem dL_law_423 : decode cL_law 423 = .ok (.aload_n 0, 1) := by decide +kernel
theorem dL_law_424 : decode cL_law 424 = .ok (.iload_n 3, 1) := by decide +kernel
theorem dL_law_425 : decode cL_law 425 = .ok (.iconst 1, 1) := by decide +kernel
theorem dL_law_426 : decode cL_law 426 = .ok (.iadd, 1) := by decide +kernel
theorem dL_law_427 : decode cL_law 427 = .ok (.iaload, 1) := by decide +kernel
theorem dL_law_428 : decode cL_law 428 = .ok (.invokevirtual 48, 3) := by decide +kernel
theorem dL_law_431 : decode cL_law 431 = .ok (.if_icmp .eq 869, 3) := by decide +kernel
theorem dL_law_434 : decode cL_law 434 = .ok (.iconst 0, 1) := by decide +kernel
theorem dL_law_435 : decode cL_law 435 = .ok (.ireturn, 1) := by decide +kernel
theorem dL_law_436 : decode cL_law 436 = .ok (.aload_n 1, 1) := by decide +kernel
theorem dL_law_437 : decode cL_law 437 = .ok (.aload_n 0, 1) := by decide +kernel
theorem dL_law_438 : decode cL_law 438 = .ok (.iload_n 3, 1) := by decide +kernel
theorem dL_law_439 : decode cL_law 439 = .ok (.iconst 1, 1) := by decide +kernel
theorem dL_law_440 : decode cL_law 440 = .ok (.iadd, 1) := by decide +kernel
theorem dL_law_441 : decode cL_law 441 = .ok (.iaload, 1) := by decide +kernel
theorem dL_law_442 : decode cL_law 442 = .ok (.aload_n 0, 1) := by decide +kernel
theorem dL_law_443 : decode cL_law 443 = .ok (.iload_n 3, 1) := by decide +kernel
theorem dL_law_444 : decode cL_law 444 = .ok (.iconst 2, 1) := by decide +kernel
theorem dL_law_445 : decode cL_law 445 = .ok (.iadd, 1) := by decide +kernel
theorem dL_law_446 : decode cL_law 446 = .ok (.iaload, 1) := by decide +kernel
theorem dL_law_447 : decode cL_law 447 = .ok (.invokevirtual 49, 3) := by decide +kernel
theorem dL_law_450 : decode cL_law 450 = .ok (.aload_n 2, 1) := by decide +kernel
theorem dL_law_451 : decode cL_law 451 = .ok (.aload_n 0, 1) := by decide +kernel
theorem dL_law_452 : decode cL_law 452 = .ok (.iload_n 3, 1) := by decide +kernel
theorem dL_law_453 : decode cL_law 453 = .ok (.iconst 1, 1) := by decide +kernel
theorem dL_law_454 : decode cL_law 454 = .ok (.iadd, 1) := by decide +kernel
theorem dL_law_455 : decode cL_law 455 = .ok (.iaload, 1) := by decide +kernel
theorem dL_law_456 : decode cL_law 456 = .ok (.aload_n 0, 1) := by decide +kernel
theorem dL_law_457 : decode cL_law 457 = .ok (.iload_n 3, 1) := by decide +kernel
theorem dL_law_458 : decode cL_law 458 = .ok (.iconst 2, 1) := by decide +kernel
theorem dL_law_459 : decode cL_law 459 = .ok (.iadd, 1) := by decide +kernel
theorem dL_law_460 : decode cL_law 460 = .ok (.iaload, 1) := by decide +kernel
theorem dL_law_461 : decode cL_law 461 = .ok (.invokevirtual 53, 3) := by decide +kernel
theorem dL_law_464 : decode cL_law 464 = .ok (.if_icmp .eq 836, 3) := by decide +kernel
theorem dL_law_467 : decode cL_law 467 = .ok (.iconst 0, 1) := by decide +kernel
theorem dL_law_468 : decode cL_law 468 = .ok (.ireturn, 1) := by decide +kernel
theorem dL_law_469 : decode cL_law 469 = .ok (.aload_n 1, 1) := by decide +kernel
theorem dL_law_470 : decode cL_law 470 = .ok (.aload_n 0, 1) := by decide +kernel
theorem dL_law_471 : decode cL_law 471 = .ok (.iload_n 3, 1) := by decide +kernel
theorem dL_law_472 : decode cL_law 472 = .ok (.iconst 1, 1) := by decide +kernel
theorem dL_law_473 : decode cL_law 473 = .ok (.iadd, 1) := by decide +kernel
theorem dL_law_474 : decode cL_law 474 = .ok (.iaload, 1) := by decide +kernel
theorem dL_law_475 : decode cL_law 475 = .ok (.aload_n 0, 1) := by decide +kernel
theorem dL_law_476 : decode cL_law 476 = .ok (.iload_n 3, 1) := by decide +kernel
theorem dL_law_477 : decode cL_law 477 = .ok (.iconst 2, 1) := by decide +kernel
theorem dL_law_478 : decode cL_law 478 = .ok (.iadd, 1) := by decide +kernel
theorem dL_law_479 : decode cL_law 479 = .ok (.iaload, 1) := by decide +kernel
theorem dL_law_480 : decode cL_law 480 = .ok (.aload_n 0, 1) := by decide +kernel
theorem dL_law_481 : decode cL_law 481 = .ok (.iload_n 3, 1) := by decide +kernel
theorem dL_law_482 : decode cL_law 482 = .ok (.iconst 3, 1) := by decide +kernel
theorem dL_law_483 : decode cL_law 483 = .ok (.iadd, 1) := by decide +kernel
theorem dL_law_484 : decode cL_law 484 = .ok (.iaload, 1) := by decide +kernel
theorem dL_law_485 : decode cL_law 485 = .ok (.invokevirtual 54, 3) := by decide +kernel
theorem dL_law_488 : decode cL_law 488 = .ok (.aload_n 2, 1) := by decide +kernel
theorem dL_law_489 : decode cL_law 489 = .ok (.aload_n 0, 1) := by decide +kernel
theorem dL_law_490 : decode cL_law 490 = .ok (.iload_n 3, 1) := by decide +kernel
theorem dL_law_491 : decode cL_law 491 = .ok (.iconst 1, 1) := by decide +kernel
theorem dL_law_492 : decode cL_law 492 = .ok (.iadd, 1) := by decide +kernel
theorem dL_law_493 : decode cL_law 493 = .ok (.iaload, 1) := by decide +kernel
theorem dL_law_494 : decode cL_law 494 = .ok (.aload_n 0, 1) := by decide +kernel
theorem dL_law_495 : decode cL_law 495 = .ok (.iload_n 3, 1) := by decide +kernel
theorem dL_law_496 : decode cL_law 496 = .ok (.iconst 2, 1) := by decide +kernel
theorem dL_law_497 : decode cL_law 497 = .ok (.iadd, 1) := by decide +kernel
theorem dL_law_498 : decode cL_law 498 = .ok (.iaload, 1) := by decide +kernel
theorem dL_law_499 : decode cL_law 499 = .ok (.aload_n 0, 1) := by decide +kernel
theorem dL_law_500 : decode cL_law 500 = .ok (.iload_n 3, 1) := by decide +kernel
theorem dL_law_501 : decode cL_law 501 = .ok (.iconst 3, 1) := by decide +kernel
theorem dL_law_502 : decode cL_law 502 = .ok (.iadd, 1) := by decide +kernel
theorem dL_law_503 : decode cL_law 503 = .ok (.iaload, 1) := by decide +kernel
theorem dL_law_504 : decode cL_law 504 = .ok (.invokevirtual 57, 3) := by decide +kernel
theorem dL_law_507 : decode cL_law 507 = .ok (.if_icmp .eq 793, 3) := by decide +kernel
theorem dL_law_510 : decode cL_law 510 = .ok (.iconst 0, 1) := by decide +kernel
theorem dL_law_511 : decode cL_law 511 = .ok (.ireturn, 1) := by decide +kernel
theorem dL_law_512 : decode cL_law 512 = .ok (.aload_n 1, 1) := by decide +kernel
theorem dL_law_513 : decode cL_law 513 = .ok (.aload_n 0, 1) := by decide +kernel
theorem dL_law_514 : decode cL_law 514 = .ok (.iload_n 3, 1) := by decide +kernel
theorem dL_law_515 : decode cL_law 515 = .ok (.iconst 1, 1) := by decide +kernel
theorem dL_law_516 : decode cL_law 516 = .ok (.iadd, 1) := by decide +kernel
theorem dL_law_517 : decode cL_law 517 = .ok (.iaload, 1) := by decide +kernel
theorem dL_law_518 : decode cL_law 518 = .ok (.invokevirtual 58, 3) := by decide +kernel
theorem dL_law_521 : decode cL_law 521 = .ok (.aload_n 2, 1) := by decide +kernel
theorem dL_law_522 : decode cL_law 522 = .ok (.aload_n 0, 1) := by decide +kernel
theorem dL_law_523 : decode cL_law 523 = .ok (.iload_n 3, 1) := by decide +kernel
theorem dL_law_524 : decode cL_law 524 = .ok (.iconst 1, 1) := by decide +kernel
theorem dL_law_525 : decode cL_law 525 = .ok (.iadd, 1) := by decide +kernel
theorem dL_law_526 : decode cL_law 526 = .ok (.iaload, 1) := by decide +kernel
theorem dL_law_527 : decode cL_law 527 = .ok (.invokevirtual 61, 3) := by decide +kernel
theorem dL_law_530 : decode cL_law 530 = .ok (.if_icmp .eq 770, 3) := by decide +kernel
theorem dL_law_533 : decode cL_law 533 = .ok (.iconst 0, 1) := by decide +kernel
theorem dL_law_534 : decode cL_law 534 = .ok (.ireturn, 1) := by decide +kernel
theorem dL_law_535 : decode cL_law 535 = .ok (.aload_n 1, 1) := by decide +kernel
theorem dL_law_536 : decode cL_law 536 = .ok (.invokevirtual 62, 3) := by decide +kernel
theorem dL_law_539 : decode cL_law 539 = .ok (.aload_n 2, 1) := by decide +kernel
theorem dL_law_540 : decode cL_law 540 = .ok (.invokevirtual 65, 3) := by decide +kernel
theorem dL_law_543 : decode cL_law 543 = .ok (.if_icmp .eq 757, 3) := by decide +kernel
theorem dL_law_546 : decode cL_law 546 = .ok (.iconst 0, 1) := by decide +kernel
theorem dL_law_547 : decode cL_law 547 = .ok (.ireturn, 1) := by decide +kernel
theorem dL_law_548 : decode cL_law 548 = .ok (.aload_n 1, 1) := by decide +kernel
theorem dL_law_549 : decode cL_law 549 = .ok (.aload_n 0, 1) := by decide +kernel
theorem dL_law_550 : decode cL_law 550 = .ok (.iload_n 3, 1) := by decide +kernel
theorem dL_law_551 : decode cL_law 551 = .ok (.iconst 1, 1) := by decide +kernel
theorem dL_law_552 : decode cL_law 552 = .ok (.iadd, 1) := by decide +kernel
theorem dL_law_553 : decode cL_law 553 = .ok (.iaload, 1) := by decide +kernel
theorem dL_law_554 : decode cL_law 554 = .ok (.aload_n 0, 1) := by decide +kernel
theorem dL_law_555 : decode cL_law 555 = .ok (.iload_n 3, 1) := by decide +kernel
theorem dL_law_556 : decode cL_law 556 = .ok (.iconst 2, 1) := by decide +kernel
theorem dL_law_557 : decode cL_law 557 = .ok (.iadd, 1) := by decide +kernel
theorem dL_law_558 : decode cL_law 558 = .ok (.iaload, 1) := by decide +kernel
theorem dL_law_559 : decode cL_law 559 = .ok (.invokevirtual 66, 3) := by decide +kernel
theorem dL_law_562 : decode cL_law 562 = .ok (.aload_n 2, 1) := by decide +kernel
theorem dL_law_563 : decode cL_law 563 = .ok (.aload_n 0, 1) := by decide +kernel
theorem dL_law_564 : decode cL_law 564 = .ok (.iload_n 3, 1) := by decide +kernel
theorem dL_law_565 : decode cL_law 565 = .ok (.iconst 1, 1) := by decide +kernel
theorem dL_law_566 : decode cL_law 566 = .ok (.iadd, 1) := by decide +kernel
theorem dL_law_567 : decode cL_law 567 = .ok (.iaload, 1) := by decide +kernel
theorem dL_law_568 : decode cL_law 568 = .ok (.aload_n 0, 1) := by decide +kernel
theorem dL_law_569 : decode cL_law 569 = .ok (.iload_n 3, 1) := by decide +kernel
theorem dL_law_570 : decode cL_law 570 = .ok (.iconst 2, 1) := by decide +kernel
theorem dL_law_571 : decode cL_law 571 = .ok (.iadd, 1) := by decide +kernel
theorem dL_law_572 : decode cL_law 572 = .ok (.iaload, 1) := by decide +kernel
theorem dL_law_573 : decode cL_law 573 = .ok (.invokevirtual 69, 3) := by decide +kernel
theorem dL_law_576 : decode cL_law 576 = .ok (.if_icmp .eq 724, 3) := by decide +kernel
theorem dL_law_579 : decode cL_law 579 = .ok (.iconst 0, 1) := by decide +kernel
theorem dL_law_580 : decode cL_law 580 = .ok (.ireturn, 1) := by decide +kernel
theorem dL_law_581 : decode cL_law 581 = .ok (.aload_n 1, 1) := by decide +kernel
theorem dL_law_582 : decode cL_law 582 = .ok (.aload_n 0, 1) := by decide +kernel
theorem dL_law_583 : decode cL_law 583 = .ok (.iload_n 3, 1) := by decide +kernel
theorem dL_law_584 : decode cL_law 584 = .ok (.iconst 1, 1) := by decide +kernel
theorem dL_law_585 : decode cL_law 585 = .ok (.iadd, 1) := by decide +kernel
theorem dL_law_586 : decode cL_law 586 = .ok (.iaload, 1) := by decide +kernel
theorem dL_law_587 : decode cL_law 587 = .ok (.aload_n 0, 1) := by decide +kernel
theorem dL_law_588 : decode cL_law 588 = .ok (.iload_n 3, 1) := by decide +kernel
theorem dL_law_589 : decode cL_law 589 = .ok (.iconst 2, 1) := by decide +kernel
theorem dL_law_590 : decode cL_law 590 = .ok (.iadd, 1) := by decide +kernel
theorem dL_law_591 : decode cL_law 591 = .ok (.iaload, 1) := by decide +kernel
theorem dL_law_592 : decode cL_law 592 = .ok (.invokevirtual 70, 3) := by decide +kernel
theorem dL_law_595 : decode cL_law 595 = .ok (.aload_n 2, 1) := by decide +kernel
theorem dL_law_596 : decode cL_law 596 = .ok (.aload_n 0, 1) := by decide +kernel
theorem dL_law_597 : decode cL_law 597 = .ok (.iload_n 3, 1) := by decide +kernel
theorem dL_law_598 : decode cL_law 598 = .ok (.iconst 1, 1) := by decide +kernel
theorem dL_law_599 : decode cL_law 599 = .ok (.iadd, 1) := by decide +kernel
theorem dL_law_600 : decode cL_law 600 = .ok (.iaload, 1) := by decide +kernel
theorem dL_law_601 : decode cL_law 601 = .ok (.aload_n 0, 1) := by decide +kernel
theorem dL_law_602 : decode cL_law 602 = .ok (.iload_n 3, 1) := by decide +kernel
theorem dL_law_603 : decode cL_law 603 = .ok (.iconst 2, 1) := by decide +kernel
theorem dL_law_604 : decode cL_law 604 = .ok (.iadd, 1) := by decide +kernel
theorem dL_law_605 : decode cL_law 605 = .ok (.iaload, 1) := by decide +kernel
theorem dL_law_606 : decode cL_law 606 = .ok (.invokevirtual 73, 3) := by decide +kernel
theorem dL_law_609 : decode cL_law 609 = .ok (.if_icmp .eq 691, 3) := by decide +kernel
theorem dL_law_612 : decode cL_law 612 = .ok (.iconst 0, 1) := by decide +kernel
theorem dL_law_613 : decode cL_law 613 = .ok (.ireturn, 1) := by decide +kernel
theorem dL_law_614 : decode cL_law 614 = .ok (.aload_n 1, 1) := by decide +kernel
theorem dL_law_615 : decode cL_law 615 = .ok (.aload_n 0, 1) := by decide +kernel
theorem dL_law_616 : decode cL_law 616 = .ok (.iload_n 3, 1) := by decide +kernel
theorem dL_law_617 : decode cL_law 617 = .ok (.iconst 1, 1) := by decide +kernel
theorem dL_law_618 : decode cL_law 618 = .ok (.iadd, 1) := by decide +kernel
theorem dL_law_619 : decode cL_law 619 = .ok (.iaload, 1) := by decide +kernel
theorem dL_law_620 : decode cL_law 620 = .ok (.invokevirtual 74, 3) := by decide +kernel
theorem dL_law_623 : decode cL_law 623 = .ok (.aload_n 2, 1) := by decide +kernel
theorem dL_law_624 : decode cL_law 624 = .ok (.aload_n 0, 1) := by decide +kernel
theorem dL_law_625 : decode cL_law 625 = .ok (.iload_n 3, 1) := by decide +kernel
theorem dL_law_626 : decode cL_law 626 = .ok (.iconst 1, 1) := by decide +kernel
theorem dL_law_627 : decode cL_law 627 = .ok (.iadd, 1) := by decide +kernel
theorem dL_law_628 : decode cL_law 628 = .ok (.iaload, 1) := by decide +kernel
theorem dL_law_629 : decode cL_law 629 = .ok (.invokevirtual 77, 3) := by decide +kernel
theorem dL_law_632 : decode cL_law 632 = .ok (.if_icmp .eq 668, 3) := by decide +kernel
theorem dL_law_635 : decode cL_law 635 = .ok (.iconst 0, 1) := by decide +kernel
theorem dL_law_636 : decode cL_law 636 = .ok (.ireturn, 1) := by decide +kernel
theorem dL_law_637 : decode cL_law 637 = .ok (.aload_n 1, 1) := by decide +kernel
theorem dL_law_638 : decode cL_law 638 = .ok (.aload_n 0, 1) := by decide +kernel
theorem dL_law_639 : decode cL_law 639 = .ok (.iload_n 3, 1) := by decide +kernel
theorem dL_law_640 : decode cL_law 640 = .ok (.iconst 1, 1) := by decide +kernel
theorem dL_law_641 : decode cL_law 641 = .ok (.iadd, 1) := by decide +kernel
theorem dL_law_642 : decode cL_law 642 = .ok (.iaload, 1) := by decide +kernel
theorem dL_law_643 : decode cL_law 643 = .ok (.aload_n 0, 1) := by decide +kernel
theorem dL_law_644 : decode cL_law 644 = .ok (.iload_n 3, 1) := by decide +kernel
theorem dL_law_645 : decode cL_law 645 = .ok (.iconst 2, 1) := by decide +kernel
theorem dL_law_646 : decode cL_law 646 = .ok (.iadd, 1) := by decide +kernel
theorem dL_law_647 : decode cL_law 647 = .ok (.iaload, 1) := by decide +kernel
theorem dL_law_648 : decode cL_law 648 = .ok (.invokevirtual 78, 3) := by decide +kernel
theorem dL_law_651 : decode cL_law 651 = .ok (.aload_n 2, 1) := by decide +kernel
theorem dL_law_652 : decode cL_law 652 = .ok (.aload_n 0, 1) := by decide +kernel
theorem dL_law_653 : decode cL_law 653 = .ok (.iload_n 3, 1) := by decide +kernel
theorem dL_law_654 : decode cL_law 654 = .ok (.iconst 1, 1) := by decide +kernel
theorem dL_law_655 : decode cL_law 655 = .ok (.iadd, 1) := by decide +kernel
theorem dL_law_656 : decode cL_law 656 = .ok (.iaload, 1) := by decide +kernel
theorem dL_law_657 : decode cL_law 657 = .ok (.aload_n 0, 1) := by decide +kernel
theorem dL_law_658 : decode cL_law 658 = .ok (.iload_n 3, 1) := by decide +kernel
theorem dL_law_659 : decode cL_law 659 = .ok (.iconst 2, 1) := by decide +kernel
theorem dL_law_660 : decode cL_law 660 = .ok (.iadd, 1) := by decide +kernel
theorem dL_law_661 : decode cL_law 661 = .ok (.iaload, 1) := by decide +kernel
theorem dL_law_662 : decode cL_law 662 = .ok (.invokevirtual 81, 3) := by decide +kernel
theorem dL_law_665 : decode cL_law 665 = .ok (.if_icmp .eq 635, 3) := by decide +kernel
theorem dL_law_668 : decode cL_law 668 = .ok (.iconst 0, 1) := by decide +kernel
theorem dL_law_669 : decode cL_law 669 = .ok (.ireturn, 1) := by decide +kernel
theorem dL_law_670 : decode cL_law 670 = .ok (.aload_n 1, 1) := by decide +kernel
theorem dL_law_671 : decode cL_law 671 = .ok (.aload_n 0, 1) := by decide +kernel
theorem dL_law_672 : decode cL_law 672 = .ok (.iload_n 3, 1) := by decide +kernel
theorem dL_law_673 : decode cL_law 673 = .ok (.iconst 1, 1) := by decide +kernel
theorem dL_law_674 : decode cL_law 674 = .ok (.iadd, 1) := by decide +kernel
theorem dL_law_675 : decode cL_law 675 = .ok (.iaload, 1) := by decide +kernel
theorem dL_law_676 : decode cL_law 676 = .ok (.invokevirtual 82, 3) := by decide +kernel
theorem dL_law_679 : decode cL_law 679 = .ok (.aload_n 2, 1) := by decide +kernel
theorem dL_law_680 : decode cL_law 680 = .ok (.aload_n 0, 1) := by decide +kernel
theorem dL_law_681 : decode cL_law 681 = .ok (.iload_n 3, 1) := by decide +kernel
theorem dL_law_682 : decode cL_law 682 = .ok (.iconst 1, 1) := by decide +kernel
theorem dL_law_683 : decode cL_law 683 = .ok (.iadd, 1) := by decide +kernel
theorem dL_law_684 : decode cL_law 684 = .ok (.iaload, 1) := by decide +kernel
theorem dL_law_685 : decode cL_law 685 = .ok (.invokevirtual 85, 3) := by decide +kernel
theorem dL_law_688 : decode cL_law 688 = .ok (.if_icmp .eq 612, 3) := by decide +kernel
theorem dL_law_691 : decode cL_law 691 = .ok (.iconst 0, 1) := by decide +kernel
theorem dL_law_692 : decode cL_law 692 = .ok (.ireturn, 1) := by decide +kernel
theorem dL_law_693 : decode cL_law 693 = .ok (.aload_n 1, 1) := by decide +kernel
theorem dL_law_694 : decode cL_law 694 = .ok (.aload_n 0, 1) := by decide +kernel
theorem dL_law_695 : decode cL_law 695 = .ok (.iload_n 3, 1) := by decide +kernel
theorem dL_law_696 : decode cL_law 696 = .ok (.iconst 1, 1) := by decide +kernel
theorem dL_law_697 : decode cL_law 697 = .ok (.iadd, 1) := by decide +kernel
theorem dL_law_698 : decode cL_law 698 = .ok (.iaload, 1) := by decide +kernel
theorem dL_law_699 : decode cL_law 699 = .ok (.invokevirtual 86, 3) := by decide +kernel
theorem dL_law_702 : decode cL_law 702 = .ok (.aload_n 2, 1) := by decide +kernel
theorem dL_law_703 : decode cL_law 703 = .ok (.aload_n 0, 1) := by decide +kernel
theorem dL_law_704 : decode cL_law 704 = .ok (.iload_n 3, 1) := by decide +kernel
theorem dL_law_705 : decode cL_law 705 = .ok (.iconst 1, 1) := by decide +kernel
theorem dL_law_706 : decode cL_law 706 = .ok (.iadd, 1) := by decide +kernel
theorem dL_law_707 : decode cL_law 707 = .ok (.iaload, 1) := by decide +kernel
theorem dL_law_708 : decode cL_law 708 = .ok (.invokevirtual 89, 3) := by decide +kernel
theorem dL_law_711 : decode cL_law 711 = .ok (.if_icmp .eq 589, 3) := by decide +kernel
theorem dL_law_714 : decode cL_law 714 = .ok (.iconst 0, 1) := by decide +kernel
theorem dL_law_715 : decode cL_law 715 = .ok (.ireturn, 1) := by decide +kernel
theorem dL_law_716 : decode cL_law 716 = .ok (.aload_n 1, 1) := by decide +kernel
theorem dL_law_717 : decode cL_law 717 = .ok (.aload_n 0, 1) := by decide +kernel
theorem dL_law_718 : decode cL_law 718 = .ok (.iload_n 3, 1) := by decide +kernel
theorem dL_law_719 : decode cL_law 719 = .ok (.iconst 1, 1) := by decide +kernel
theorem dL_law_720 : decode cL_law 720 = .ok (.iadd, 1) := by decide +kernel
theorem dL_law_721 : decode cL_law 721 = .ok (.iaload, 1) := by decide +kernel
theorem dL_law_722 : decode cL_law 722 = .ok (.aload_n 0, 1) := by decide +kernel
theorem dL_law_723 : decode cL_law 723 = .ok (.iload_n 3, 1) := by decide +kernel
theorem dL_law_724 : decode cL_law 724 = .ok (.iconst 2, 1) := by decide +kernel
theorem dL_law_725 : decode cL_law 725 = .ok (.iadd, 1) := by decide +kernel
theorem dL_law_726 : decode cL_law 726 = .ok (.iaload, 1) := by decide +kernel
theorem dL_law_727 : decode cL_law 727 = .ok (.invokevirtual 90, 3) := by decide +kernel
theorem dL_law_730 : decode cL_law 730 = .ok (.aload_n 2, 1) := by decide +kernel
theorem dL_law_731 : decode cL_law 731 = .ok (.aload_n 0, 1) := by decide +kernel
theorem dL_law_732 : decode cL_law 732 = .ok (.iload_n 3, 1) := by decide +kernel
theorem dL_law_733 : decode cL_law 733 = .ok (.iconst 1, 1) := by decide +kernel
theorem dL_law_734 : decode cL_law 734 = .ok (.iadd, 1) := by decide +kernel
theorem dL_law_735 : decode cL_law 735 = .ok (.iaload, 1) := by decide +kernel
theorem dL_law_736 : decode cL_law 736 = .ok (.aload_n 0, 1) := by decide +kernel
theorem dL_law_737 : decode cL_law 737 = .ok (.iload_n 3, 1) := by decide +kernel
theorem dL_law_738 : decode cL_law 738 = .ok (.iconst 2, 1) := by decide +kernel
theorem dL_law_739 : decode cL_law 739 = .ok (.iadd, 1) := by decide +kernel
theorem dL_law_740 : decode cL_law 740 = .ok (.iaload, 1) := by decide +kernel
theorem dL_law_741 : decode cL_law 741 = .ok (.invokevirtual 93, 3) := by decide +kernel
theorem dL_law_744 : decode cL_law 744 = .ok (.if_icmp .eq 556, 3) := by decide +kernel
theorem dL_law_747 : decode cL_law 747 = .ok (.iconst 0, 1) := by decide +kernel
theorem dL_law_748 : decode cL_law 748 = .ok (.ireturn, 1) := by decide +kernel
theorem dL_law_749 : decode cL_law 749 = .ok (.aload_n 1, 1) := by decide +kernel
theorem dL_law_750 : decode cL_law 750 = .ok (.aload_n 0, 1) := by decide +kernel
theorem dL_law_751 : decode cL_law 751 = .ok (.iload_n 3, 1) := by decide +kernel
theorem dL_law_752 : decode cL_law 752 = .ok (.iconst 1, 1) := by decide +kernel
theorem dL_law_753 : decode cL_law 753 = .ok (.iadd, 1) := by decide +kernel
theorem dL_law_754 : decode cL_law 754 = .ok (.iaload, 1) := by decide +kernel
theorem dL_law_755 : decode cL_law 755 = .ok (.aload_n 0, 1) := by decide +kernel
theorem dL_law_756 : decode cL_law 756 = .ok (.iload_n 3, 1) := by decide +kernel
theorem dL_law_757 : decode cL_law 757 = .ok (.iconst 2, 1) := by decide +kernel
theorem dL_law_758 : decode cL_law 758 = .ok (.iadd, 1) := by decide +kernel
theorem dL_law_759 : decode cL_law 759 = .ok (.iaload, 1) := by decide +kernel
theorem dL_law_760 : decode cL_law 760 = .ok (.aload_n 0, 1) := by decide +kernel
theorem dL_law_761 : decode cL_law 761 = .ok (.iload_n 3, 1) := by decide +kernel
theorem dL_law_762 : decode cL_law 762 = .ok (.iconst 3, 1) := by decide +kernel
theorem dL_law_763 : decode cL_law 763 = .ok (.iadd, 1) := by decide +kernel
theorem dL_law_764 : decode cL_law 764 = .ok (.iaload, 1) := by decide +kernel
theorem dL_law_765 : decode cL_law 765 = .ok (.invokevirtual 94, 3) := by decide +kernel
theorem dL_law_768 : decode cL_law 768 = .ok (.aload_n 2, 1) := by decide +kernel
theorem dL_law_769 : decode cL_law 769 = .ok (.aload_n 0, 1) := by decide +kernel
theorem dL_law_770 : decode cL_law 770 = .ok (.iload_n 3, 1) := by decide +kernel
theorem dL_law_771 : decode cL_law 771 = .ok (.iconst 1, 1) := by decide +kernel
theorem dL_law_772 : decode cL_law 772 = .ok (.iadd, 1) := by decide +kernel
theorem dL_law_773 : decode cL_law 773 = .ok (.iaload, 1) := by decide +kernel
theorem dL_law_774 : decode cL_law 774 = .ok (.aload_n 0, 1) := by decide +kernel
theorem dL_law_775 : decode cL_law 775 = .ok (.iload_n 3, 1) := by decide +kernel
theorem dL_law_776 : decode cL_law 776 = .ok (.iconst 2, 1) := by decide +kernel
theorem dL_law_777 : decode cL_law 777 = .ok (.iadd, 1) := by decide +kernel
theorem dL_law_778 : decode cL_law 778 = .ok (.iaload, 1) := by decide +kernel
theorem dL_law_779 : decode cL_law 779 = .ok (.aload_n 0, 1) := by decide +kernel
theorem dL_law_780 : decode cL_law 780 = .ok (.iload_n 3, 1) := by decide +kernel
theorem dL_law_781 : decode cL_law 781 = .ok (.iconst 3, 1) := by decide +kernel
theorem dL_law_782 : decode cL_law 782 = .ok (.iadd, 1) := by decide +kernel
theorem dL_law_783 : decode cL_law 783 = .ok (.iaload, 1) := by decide +kernel
theorem dL_law_784 : decode cL_law 784 = .ok (.invokevirtual 97, 3) := by decide +kernel
theorem dL_law_787 : decode cL_law 787 = .ok (.if_icmp .eq 513, 3) := by decide +kernel
theorem dL_law_790 : decode cL_law 790 = .ok (.iconst 0, 1) := by decide +kernel
theorem dL_law_791 : decode cL_law 791 = .ok (.ireturn, 1) := by decide +kernel
theorem dL_law_792 : decode cL_law 792 = .ok (.aload_n 1, 1) := by decide +kernel
theorem dL_law_793 : decode cL_law 793 = .ok (.aload_n 0, 1) := by decide +kernel
theorem dL_law_794 : decode cL_law 794 = .ok (.iload_n 3, 1) := by decide +kernel
theorem dL_law_795 : decode cL_law 795 = .ok (.iconst 1, 1) := by decide +kernel
theorem dL_law_796 : decode cL_law 796 = .ok (.iadd, 1) := by decide +kernel
theorem dL_law_797 : decode cL_law 797 = .ok (.iaload, 1) := by decide +kernel
theorem dL_law_798 : decode cL_law 798 = .ok (.aload_n 0, 1) := by decide +kernel
theorem dL_law_799 : decode cL_law 799 = .ok (.iload_n 3, 1) := by decide +kernel
theorem dL_law_800 : decode cL_law 800 = .ok (.iconst 2, 1) := by decide +kernel
theorem dL_law_801 : decode cL_law 801 = .ok (.iadd, 1) := by decide +kernel
theorem dL_law_802 : decode cL_law 802 = .ok (.iaload, 1) := by decide +kernel
theorem dL_law_803 : decode cL_law 803 = .ok (.aload_n 0, 1) := by decide +kernel
theorem dL_law_804 : decode cL_law 804 = .ok (.iload_n 3, 1) := by decide +kernel
theorem dL_law_805 : decode cL_law 805 = .ok (.iconst 3, 1) := by decide +kernel
theorem dL_law_806 : decode cL_law 806 = .ok (.iadd, 1) := by decide +kernel
theorem dL_law_807 : decode cL_law 807 = .ok (.iaload, 1) := by decide +kernel
theorem dL_law_808 : decode cL_law 808 = .ok (.invokevirtual 98, 3) := by decide +kernel
theorem dL_law_811 : decode cL_law 811 = .ok (.aload_n 2, 1) := by decide +kernel
theorem dL_law_812 : decode cL_law 812 = .ok (.aload_n 0, 1) := by decide +kernel
theorem dL_law_813 : decode cL_law 813 = .ok (.iload_n 3, 1) := by decide +kernel
theorem dL_law_814 : decode cL_law 814 = .ok (.iconst 1, 1) := by decide +kernel
theorem dL_law_815 : decode cL_law 815 = .ok (.iadd, 1) := by decide +kernel
theorem dL_law_816 : decode cL_law 816 = .ok (.iaload, 1) := by decide +kernel
theorem dL_law_817 : decode cL_law 817 = .ok (.aload_n 0, 1) := by decide +kernel
theorem dL_law_818 : decode cL_law 818 = .ok (.iload_n 3, 1) := by decide +kernel
theorem dL_law_819 : decode cL_law 819 = .ok (.iconst 2, 1) := by decide +kernel
theorem dL_law_820 : decode cL_law 820 = .ok (.iadd, 1) := by decide +kernel
theorem dL_law_821 : decode cL_law 821 = .ok (.iaload, 1) := by decide +kernel
theorem dL_law_822 : decode cL_law 822 = .ok (.aload_n 0, 1) := by decide +kernel
theorem dL_law_823 : decode cL_law 823 = .ok (.iload_n 3, 1) := by decide +kernel
theorem dL_law_824 : decode cL_law 824 = .ok (.iconst 3, 1) := by decide +kernel
theorem dL_law_825 : decode cL_law 825 = .ok (.iadd, 1) := by decide +kernel
theorem dL_law_826 : decode cL_law 826 = .ok (.iaload, 1) := by decide +kernel
theorem dL_law_827 : decode cL_law 827 = .ok (.invokevirtual 101, 3) := by decide +kernel
theorem dL_law_830 : decode cL_law 830 = .ok (.if_icmp .eq 470, 3) := by decide +kernel
theorem dL_law_833 : decode cL_law 833 = .ok (.iconst 0, 1) := by decide +kernel
theorem dL_law_834 : decode cL_law 834 = .ok (.ireturn, 1) := by decide +kernel
theorem dL_law_835 : decode cL_law 835 = .ok (.aload_n 1, 1) := by decide +kernel
theorem dL_law_836 : decode cL_law 836 = .ok (.aload_n 0, 1) := by decide +kernel
theorem dL_law_837 : decode cL_law 837 = .ok (.iload_n 3, 1) := by decide +kernel
theorem dL_law_838 : decode cL_law 838 = .ok (.iconst 1, 1) := by decide +kernel
theorem dL_law_839 : decode cL_law 839 = .ok (.iadd, 1) := by decide +kernel
theorem dL_law_840 : decode cL_law 840 = .ok (.iaload, 1) := by decide +kernel
theorem dL_law_841 : decode cL_law 841 = .ok (.aload_n 0, 1) := by decide +kernel
theorem dL_law_842 : decode cL_law 842 = .ok (.iload_n 3, 1) := by decide +kernel
theorem dL_law_843 : decode cL_law 843 = .ok (.iconst 2, 1) := by decide +kernel
theorem dL_law_844 : decode cL_law 844 = .ok (.iadd, 1) := by decide +kernel
theorem dL_law_845 : decode cL_law 845 = .ok (.iaload, 1) := by decide +kernel
theorem dL_law_846 : decode cL_law 846 = .ok (.aload_n 0, 1) := by decide +kernel
theorem dL_law_847 : decode cL_law 847 = .ok (.iload_n 3, 1) := by decide +kernel
theorem dL_law_848 : decode cL_law 848 = .ok (.iconst 3, 1) := by decide +kernel
theorem dL_law_849 : decode cL_law 849 = .ok (.iadd, 1) := by decide +kernel
theorem dL_law_850 : decode cL_law 850 = .ok (.iaload, 1) := by decide +kernel
theorem dL_law_851 : decode cL_law 851 = .ok (.invokevirtual 102, 3) := by decide +kernel
theorem dL_law_854 : decode cL_law 854 = .ok (.aload_n 2, 1) := by decide +kernel
theorem dL_law_855 : decode cL_law 855 = .ok (.aload_n 0, 1) := by decide +kernel
theorem dL_law_856 : decode cL_law 856 = .ok (.iload_n 3, 1) := by decide +kernel
theorem dL_law_857 : decode cL_law 857 = .ok (.iconst 1, 1) := by decide +kernel
theorem dL_law_858 : decode cL_law 858 = .ok (.iadd, 1) := by decide +kernel
theorem dL_law_859 : decode cL_law 859 = .ok (.iaload, 1) := by decide +kernel
theorem dL_law_860 : decode cL_law 860 = .ok (.aload_n 0, 1) := by decide +kernel
theorem dL_law_861 : decode cL_law 861 = .ok (.iload_n 3, 1) := by decide +kernel
theorem dL_law_862 : decode cL_law 862 = .ok (.iconst 2, 1) := by decide +kernel
theorem dL_law_863 : decode cL_law 863 = .ok (.iadd, 1) := by decide +kernel
theorem dL_law_864 : decode cL_law 864 = .ok (.iaload, 1) := by decide +kernel
theorem dL_law_865 : decode cL_law 865 = .ok (.aload_n 0, 1) := by decide +kernel
theorem dL_law_866 : decode cL_law 866 = .ok (.iload_n 3, 1) := by decide +kernel
theorem dL_law_867 : decode cL_law 867 = .ok (.iconst 3, 1) := by decide +kernel
theorem dL_law_868 : decode cL_law 868 = .ok (.iadd, 1) := by decide +kernel
theorem dL_law_869 : decode cL_law 869 = .ok (.iaload, 1) := by decide +kernel
theorem dL_law_870 : decode cL_law 870 = .ok (.invokevirtual 105, 3) := by decide +kernel
theorem dL_law_873 : decode cL_law 873 = .ok (.if_icmp .eq 427, 3) := by decide +kernel
theorem dL_law_876 : decode cL_law 876 = .ok (.iconst 0, 1) := by decide +kernel
theorem dL_law_877 : decode cL_law 877 = .ok (.ireturn, 1) := by decide +kernel
theorem dL_law_878 : decode cL_law 878 = .ok (.aload_n 1, 1) := by decide +kernel
theorem dL_law_879 : decode cL_law 879 = .ok (.invokevirtual 106, 3) := by decide +kernel
theorem dL_law_882 : decode cL_law 882 = .ok (.aload_n 2, 1) := by decide +kernel
theorem dL_law_883 : decode cL_law 883 = .ok (.invokevirtual 109, 3) := by decide +kernel
theorem dL_law_886 : decode cL_law 886 = .ok (.if_icmp .eq 414, 3) := by decide +kernel
theorem dL_law_889 : decode cL_law 889 = .ok (.iconst 0, 1) := by decide +kernel
theorem dL_law_890 : decode cL_law 890 = .ok (.ireturn, 1) := by decide +kernel
theorem dL_law_891 : decode cL_law 891 = .ok (.aload_n 1, 1) := by decide +kernel
theorem dL_law_892 : decode cL_law 892 = .ok (.aload_n 0, 1) := by decide +kernel
theorem dL_law_893 : decode cL_law 893 = .ok (.iload_n 3, 1) := by decide +kernel
theorem dL_law_894 : decode cL_law 894 = .ok (.iconst 1, 1) := by decide +kernel
theorem dL_law_895 : decode cL_law 895 = .ok (.iadd, 1) := by decide +kernel
theorem dL_law_896 : decode cL_law 896 = .ok (.iaload, 1) := by decide +kernel
theorem dL_law_897 : decode cL_law 897 = .ok (.invokevirtual 110, 3) := by decide +kernel
theorem dL_law_900 : decode cL_law 900 = .ok (.aload_n 2, 1) := by decide +kernel
theorem dL_law_901 : decode cL_law 901 = .ok (.aload_n 0, 1) := by decide +kernel
theorem dL_law_902 : decode cL_law 902 = .ok (.iload_n 3, 1) := by decide +kernel
theorem dL_law_903 : decode cL_law 903 = .ok (.iconst 1, 1) := by decide +kernel
theorem dL_law_904 : decode cL_law 904 = .ok (.iadd, 1) := by decide +kernel
theorem dL_law_905 : decode cL_law 905 = .ok (.iaload, 1) := by decide +kernel
theorem dL_law_906 : decode cL_law 906 = .ok (.invokevirtual 113, 3) := by decide +kernel
theorem dL_law_909 : decode cL_law 909 = .ok (.if_icmp .eq 391, 3) := by decide +kernel
theorem dL_law_912 : decode cL_law 912 = .ok (.iconst 0, 1) := by decide +kernel
theorem dL_law_913 : decode cL_law 913 = .ok (.ireturn, 1) := by decide +kernel
theorem dL_law_914 : decode cL_law 914 = .ok (.aload_n 1, 1) := by decide +kernel
theorem dL_law_915 : decode cL_law 915 = .ok (.aload_n 0, 1) := by decide +kernel
theorem dL_law_916 : decode cL_law 916 = .ok (.iload_n 3, 1) := by decide +kernel
theorem dL_law_917 : decode cL_law 917 = .ok (.iconst 1, 1) := by decide +kernel
theorem dL_law_918 : decode cL_law 918 = .ok (.iadd, 1) := by decide +kernel
theorem dL_law_919 : decode cL_law 919 = .ok (.iaload, 1) := by decide +kernel
theorem dL_law_920 : decode cL_law 920 = .ok (.aload_n 0, 1) := by decide +kernel
theorem dL_law_921 : decode cL_law 921 = .ok (.iload_n 3, 1) := by decide +kernel
theorem dL_law_922 : decode cL_law 922 = .ok (.iconst 2, 1) := by decide +kernel
theorem dL_law_923 : decode cL_law 923 = .ok (.iadd, 1) := by decide +kernel
theorem dL_law_924 : decode cL_law 924 = .ok (.iaload, 1) := by decide +kernel
theorem dL_law_925 : decode cL_law 925 = .ok (.aload_n 0, 1) := by decide +kernel
theorem dL_law_926 : decode cL_law 926 = .ok (.iload_n 3, 1) := by decide +kernel
theorem dL_law_927 : decode cL_law 927 = .ok (.iconst 3, 1) := by decide +kernel
theorem dL_law_928 : decode cL_law 928 = .ok (.iadd, 1) := by decide +kernel
theorem dL_law_929 : decode cL_law 929 = .ok (.iaload, 1) := by decide +kernel
theorem dL_law_930 : decode cL_law 930 = .ok (.aload_n 0, 1) := by decide +kernel
theorem dL_law_931 : decode cL_law 931 = .ok (.iload_n 3, 1) := by decide +kernel
theorem dL_law_932 : decode cL_law 932 = .ok (.iconst 4, 1) := by decide +kernel
theorem dL_law_933 : decode cL_law 933 = .ok (.iadd, 1) := by decide +kernel
theorem dL_law_934 : decode cL_law 934 = .ok (.iaload, 1) := by decide +kernel
theorem dL_law_935 : decode cL_law 935 = .ok (.invokevirtual 114, 3) := by decide +kernel
theorem dL_law_938 : decode cL_law 938 = .ok (.aload_n 2, 1) := by decide +kernel
theorem dL_law_939 : decode cL_law 939 = .ok (.aload_n 0, 1) := by decide +kernel
theorem dL_law_940 : decode cL_law 940 = .ok (.iload_n 3, 1) := by decide +kernel
theorem dL_law_941 : decode cL_law 941 = .ok (.iconst 1, 1) := by decide +kernel
theorem dL_law_942 : decode cL_law 942 = .ok (.iadd, 1) := by decide +kernel
theorem dL_law_943 : decode cL_law 943 = .ok (.iaload, 1) := by decide +kernel
theorem dL_law_944 : decode cL_law 944 = .ok (.aload_n 0, 1) := by decide +kernel
theorem dL_law_945 : decode cL_law 945 = .ok (.iload_n 3, 1) := by decide +kernel
theorem dL_law_946 : decode cL_law 946 = .ok (.iconst 2, 1) := by decide +kernel
theorem dL_law_947 : decode cL_law 947 = .ok (.iadd, 1) := by decide +kernel
theorem dL_law_948 : decode cL_law 948 = .ok (.iaload, 1) := by decide +kernel
theorem dL_law_949 : decode cL_law 949 = .ok (.aload_n 0, 1) := by decide +kernel
theorem dL_law_950 : decode cL_law 950 = .ok (.iload_n 3, 1) := by decide +kernel
theorem dL_law_951 : decode cL_law 951 = .ok (.iconst 3, 1) := by decide +kernel
theorem dL_law_952 : decode cL_law 952 = .ok (.iadd, 1) := by decide +kernel
theorem dL_law_953 : decode cL_law 953 = .ok (.iaload, 1) := by decide +kernel
theorem dL_law_954 : decode cL_law 954 = .ok (.aload_n 0, 1) := by decide +kernel
theorem dL_law_955 : decode cL_law 955 = .ok (.iload_n 3, 1) := by decide +kernel
theorem dL_law_956 : decode cL_law 956 = .ok (.iconst 4, 1) := by decide +kernel
theorem dL_law_957 : decode cL_law 957 = .ok (.iadd, 1) := by decide +kernel
theorem dL_law_958 : decode cL_law 958 = .ok (.iaload, 1) := by decide +kernel
theorem dL_law_959 : decode cL_law 959 = .ok (.invokevirtual 118, 3) := by decide +kernel
theorem dL_law_962 : decode cL_law 962 = .ok (.if_icmp .eq 338, 3) := by decide +kernel
theorem dL_law_965 : decode cL_law 965 = .ok (.iconst 0, 1) := by decide +kernel
theorem dL_law_966 : decode cL_law 966 = .ok (.ireturn, 1) := by decide +kernel
theorem dL_law_967 : decode cL_law 967 = .ok (.aload_n 1, 1) := by decide +kernel
theorem dL_law_968 : decode cL_law 968 = .ok (.aload_n 0, 1) := by decide +kernel
theorem dL_law_969 : decode cL_law 969 = .ok (.iload_n 3, 1) := by decide +kernel
theorem dL_law_970 : decode cL_law 970 = .ok (.iconst 1, 1) := by decide +kernel
theorem dL_law_971 : decode cL_law 971 = .ok (.iadd, 1) := by decide +kernel
theorem dL_law_972 : decode cL_law 972 = .ok (.iaload, 1) := by decide +kernel
theorem dL_law_973 : decode cL_law 973 = .ok (.aload_n 0, 1) := by decide +kernel
theorem dL_law_974 : decode cL_law 974 = .ok (.iload_n 3, 1) := by decide +kernel
theorem dL_law_975 : decode cL_law 975 = .ok (.iconst 2, 1) := by decide +kernel
theorem dL_law_976 : decode cL_law 976 = .ok (.iadd, 1) := by decide +kernel
theorem dL_law_977 : decode cL_law 977 = .ok (.iaload, 1) := by decide +kernel
theorem dL_law_978 : decode cL_law 978 = .ok (.aload_n 0, 1) := by decide +kernel
theorem dL_law_979 : decode cL_law 979 = .ok (.iload_n 3, 1) := by decide +kernel
theorem dL_law_980 : decode cL_law 980 = .ok (.iconst 3, 1) := by decide +kernel
theorem dL_law_981 : decode cL_law 981 = .ok (.iadd, 1) := by decide +kernel
theorem dL_law_982 : decode cL_law 982 = .ok (.iaload, 1) := by decide +kernel
theorem dL_law_983 : decode cL_law 983 = .ok (.aload_n 0, 1) := by decide +kernel
theorem dL_law_984 : decode cL_law 984 = .ok (.iload_n 3, 1) := by decide +kernel
theorem dL_law_985 : decode cL_law 985 = .ok (.iconst 4, 1) := by decide +kernel
theorem dL_law_986 : decode cL_law 986 = .ok (.iadd, 1) := by decide +kernel
theorem dL_law_987 : decode cL_law 987 = .ok (.iaload, 1) := by decide +kernel
theorem dL_law_988 : decode cL_law 988 = .ok (.invokevirtual 119, 3) := by decide +kernel
theorem dL_law_991 : decode cL_law 991 = .ok (.aload_n 2, 1) := by decide +kernel
theorem dL_law_992 : decode cL_law 992 = .ok (.aload_n 0, 1) := by decide +kernel
theorem dL_law_993 : decode cL_law 993 = .ok (.iload_n 3, 1) := by decide +kernel
theorem dL_law_994 : decode cL_law 994 = .ok (.iconst 1, 1) := by decide +kernel
theorem dL_law_995 : decode cL_law 995 = .ok (.iadd, 1) := by decide +kernel
theorem dL_law_996 : decode cL_law 996 = .ok (.iaload, 1) := by decide +kernel
theorem dL_law_997 : decode cL_law 997 = .ok (.aload_n 0, 1) := by decide +kernel
theorem dL_law_998 : decode cL_law 998 = .ok (.iload_n 3, 1) := by decide +kernel
theorem dL_law_999 : decode cL_law 999 = .ok (.iconst 2, 1) := by decide +kernel
theorem dL_law_1000 : decode cL_law 1000 = .ok (.iadd, 1) := by decide +kernel
theorem dL_law_1001 : decode cL_law 1001 = .ok (.iaload, 1) := by decide +kernel
theorem dL_law_1002 : decode cL_law 1002 = .ok (.aload_n 0, 1) := by decide +kernel
theorem dL_law_1003 : decode cL_law 1003 = .ok (.iload_n 3, 1) := by decide +kernel
theorem dL_law_1004 : decode cL_law 1004 = .ok (.iconst 3, 1) := by decide +kernel
theorem dL_law_1005 : decode cL_law 1005 = .ok (.iadd, 1) := by decide +kernel
theorem dL_law_1006 : decode cL_law 1006 = .ok (.iaload, 1) := by decide +kernel
theorem dL_law_1007 : decode cL_law 1007 = .ok (.aload_n 0, 1) := by decide +kernel
theorem dL_law_1008 : decode cL_law 1008 = .ok (.iload_n 3, 1) := by decide +kernel
theorem dL_law_1009 : decode cL_law 1009 = .ok (.iconst 4, 1) := by decide +kernel
theorem dL_law_1010 : decode cL_law 1010 = .ok (.iadd, 1) := by decide +kernel
theorem dL_law_1011 : decode cL_law 1011 = .ok (.iaload, 1) := by decide +kernel
theorem dL_law_1012 : decode cL_law 1012 = .ok (.invokevirtual 122, 3) := by decide +kernel
theorem dL_law_1015 : decode cL_law 1015 = .ok (.if_icmp .eq 285, 3) := by decide +kernel
theorem dL_law_1018 : decode cL_law 1018 = .ok (.iconst 0, 1) := by decide +kernel
theorem dL_law_1019 : decode cL_law 1019 = .ok (.ireturn, 1) := by decide +kernel
theorem dL_law_1020 : decode cL_law 1020 = .ok (.aload_n 1, 1) := by decide +kernel
theorem dL_law_1021 : decode cL_law 1021 = .ok (.aload_n 0, 1) := by decide +kernel
theorem dL_law_1022 : decode cL_law 1022 = .ok (.iload_n 3, 1) := by decide +kernel
theorem dL_law_1023 : decode cL_law 1023 = .ok (.iconst 1, 1) := by decide +kernel
theorem dL_law_1024 : decode cL_law 1024 = .ok (.iadd, 1) := by decide +kernel
theorem dL_law_1025 : decode cL_law 1025 = .ok (.iaload, 1) := by decide +kernel
theorem dL_law_1026 : decode cL_law 1026 = .ok (.aload_n 0, 1) := by decide +kernel
theorem dL_law_1027 : decode cL_law 1027 = .ok (.iload_n 3, 1) := by decide +kernel
theorem dL_law_1028 : decode cL_law 1028 = .ok (.iconst 2, 1) := by decide +kernel
theorem dL_law_1029 : decode cL_law 1029 = .ok (.iadd, 1) := by decide +kernel
theorem dL_law_1030 : decode cL_law 1030 = .ok (.iaload, 1) := by decide +kernel
theorem dL_law_1031 : decode cL_law 1031 = .ok (.aload_n 0, 1) := by decide +kernel
theorem dL_law_1032 : decode cL_law 1032 = .ok (.iload_n 3, 1) := by decide +kernel
theorem dL_law_1033 : decode cL_law 1033 = .ok (.iconst 3, 1) := by decide +kernel
theorem dL_law_1034 : decode cL_law 1034 = .ok (.iadd, 1) := by decide +kernel
theorem dL_law_1035 : decode cL_law 1035 = .ok (.iaload, 1) := by decide +kernel
theorem dL_law_1036 : decode cL_law 1036 = .ok (.invokevirtual 123, 3) := by decide +kernel
theorem dL_law_1039 : decode cL_law 1039 = .ok (.aload_n 2, 1) := by decide +kernel
theorem dL_law_1040 : decode cL_law 1040 = .ok (.aload_n 0, 1) := by decide +kernel
theorem dL_law_1041 : decode cL_law 1041 = .ok (.iload_n 3, 1) := by decide +kernel
theorem dL_law_1042 : decode cL_law 1042 = .ok (.iconst 1, 1) := by decide +kernel
theorem dL_law_1043 : decode cL_law 1043 = .ok (.iadd, 1) := by decide +kernel
theorem dL_law_1044 : decode cL_law 1044 = .ok (.iaload, 1) := by decide +kernel
theorem dL_law_1045 : decode cL_law 1045 = .ok (.aload_n 0, 1) := by decide +kernel
theorem dL_law_1046 : decode cL_law 1046 = .ok (.iload_n 3, 1) := by decide +kernel
theorem dL_law_1047 : decode cL_law 1047 = .ok (.iconst 2, 1) := by decide +kernel
theorem dL_law_1048 : decode cL_law 1048 = .ok (.iadd, 1) := by decide +kernel
theorem dL_law_1049 : decode cL_law 1049 = .ok (.iaload, 1) := by decide +kernel
theorem dL_law_1050 : decode cL_law 1050 = .ok (.aload_n 0, 1) := by decide +kernel
theorem dL_law_1051 : decode cL_law 1051 = .ok (.iload_n 3, 1) := by decide +kernel
theorem dL_law_1052 : decode cL_law 1052 = .ok (.iconst 3, 1) := by decide +kernel
theorem dL_law_1053 : decode cL_law 1053 = .ok (.iadd, 1) := by decide +kernel
theorem dL_law_1054 : decode cL_law 1054 = .ok (.iaload, 1) := by decide +kernel
theorem dL_law_1055 : decode cL_law 1055 = .ok (.invokevirtual 126, 3) := by decide +kernel
theorem dL_law_1058 : decode cL_law 1058 = .ok (.if_icmp .eq 242, 3) := by decide +kernel
theorem dL_law_1061 : decode cL_law 1061 = .ok (.iconst 0, 1) := by decide +kernel
theorem dL_law_1062 : decode cL_law 1062 = .ok (.ireturn, 1) := by decide +kernel
theorem dL_law_1063 : decode cL_law 1063 = .ok (.aload_n 1, 1) := by decide +kernel
theorem dL_law_1064 : decode cL_law 1064 = .ok (.aload_n 0, 1) := by decide +kernel
theorem dL_law_1065 : decode cL_law 1065 = .ok (.iload_n 3, 1) := by decide +kernel
theorem dL_law_1066 : decode cL_law 1066 = .ok (.iconst 1, 1) := by decide +kernel
theorem dL_law_1067 : decode cL_law 1067 = .ok (.iadd, 1) := by decide +kernel
theorem dL_law_1068 : decode cL_law 1068 = .ok (.iaload, 1) := by decide +kernel
theorem dL_law_1069 : decode cL_law 1069 = .ok (.aload_n 0, 1) := by decide +kernel
theorem dL_law_1070 : decode cL_law 1070 = .ok (.iload_n 3, 1) := by decide +kernel
theorem dL_law_1071 : decode cL_law 1071 = .ok (.iconst 2, 1) := by decide +kernel
theorem dL_law_1072 : decode cL_law 1072 = .ok (.iadd, 1) := by decide +kernel
theorem dL_law_1073 : decode cL_law 1073 = .ok (.iaload, 1) := by decide +kernel
theorem dL_law_1074 : decode cL_law 1074 = .ok (.aload_n 0, 1) := by decide +kernel
theorem dL_law_1075 : decode cL_law 1075 = .ok (.iload_n 3, 1) := by decide +kernel
theorem dL_law_1076 : decode cL_law 1076 = .ok (.iconst 3, 1) := by decide +kernel
theorem dL_law_1077 : decode cL_law 1077 = .ok (.iadd, 1) := by decide +kernel
theorem dL_law_1078 : decode cL_law 1078 = .ok (.iaload, 1) := by decide +kernel
theorem dL_law_1079 : decode cL_law 1079 = .ok (.invokevirtual 127, 3) := by decide +kernel
theorem dL_law_1082 : decode cL_law 1082 = .ok (.aload_n 2, 1) := by decide +kernel
theorem dL_law_1083 : decode cL_law 1083 = .ok (.aload_n 0, 1) := by decide +kernel
theorem dL_law_1084 : decode cL_law 1084 = .ok (.iload_n 3, 1) := by decide +kernel
theorem dL_law_1085 : decode cL_law 1085 = .ok (.iconst 1, 1) := by decide +kernel
theorem dL_law_1086 : decode cL_law 1086 = .ok (.iadd, 1) := by decide +kernel
theorem dL_law_1087 : decode cL_law 1087 = .ok (.iaload, 1) := by decide +kernel
theorem dL_law_1088 : decode cL_law 1088 = .ok (.aload_n 0, 1) := by decide +kernel
theorem dL_law_1089 : decode cL_law 1089 = .ok (.iload_n 3, 1) := by decide +kernel
theorem dL_law_1090 : decode cL_law 1090 = .ok (.iconst 2, 1) := by decide +kernel
theorem dL_law_1091 : decode cL_law 1091 = .ok (.iadd, 1) := by decide +kernel
theorem dL_law_1092 : decode cL_law 1092 = .ok (.iaload, 1) := by decide +kernel
theorem dL_law_1093 : decode cL_law 1093 = .ok (.aload_n 0, 1) := by decide +kernel
theorem dL_law_1094 : decode cL_law 1094 = .ok (.iload_n 3, 1) := by decide +kernel
theorem dL_law_1095 : decode cL_law 1095 = .ok (.iconst 3, 1) := by decide +kernel
theorem dL_law_1096 : decode cL_law 1096 = .ok (.iadd, 1) := by decide +kernel
theorem dL_law_1097 : decode cL_law 1097 = .ok (.iaload, 1) := by decide +kernel
theorem dL_law_1098 : decode cL_law 1098 = .ok (.invokevirtual 130, 3) := by decide +kernel
theorem dL_law_1101 : decode cL_law 1101 = .ok (.if_icmp .eq 199, 3) := by decide +kernel
theorem dL_law_1104 : decode cL_law 1104 = .ok (.iconst 0, 1) := by decide +kernel
theorem dL_law_1105 : decode cL_law 1105 = .ok (.ireturn, 1) := by decide +kernel
theorem dL_law_1106 : decode cL_law 1106 = .ok (.aload_n 1, 1) := by decide +kernel
theorem dL_law_1107 : decode cL_law 1107 = .ok (.aload_n 0, 1) := by decide +kernel
theorem dL_law_1108 : decode cL_law 1108 = .ok (.iload_n 3, 1) := by decide +kernel
theorem dL_law_1109 : decode cL_law 1109 = .ok (.iconst 1, 1) := by decide +kernel
theorem dL_law_1110 : decode cL_law 1110 = .ok (.iadd, 1) := by decide +kernel
theorem dL_law_1111 : decode cL_law 1111 = .ok (.iaload, 1) := by decide +kernel
theorem dL_law_1112 : decode cL_law 1112 = .ok (.invokevirtual 131, 3) := by decide +kernel
theorem dL_law_1115 : decode cL_law 1115 = .ok (.aload_n 2, 1) := by decide +kernel
theorem dL_law_1116 : decode cL_law 1116 = .ok (.aload_n 0, 1) := by decide +kernel
theorem dL_law_1117 : decode cL_law 1117 = .ok (.iload_n 3, 1) := by decide +kernel
theorem dL_law_1118 : decode cL_law 1118 = .ok (.iconst 1, 1) := by decide +kernel
theorem dL_law_1119 : decode cL_law 1119 = .ok (.iadd, 1) := by decide +kernel
theorem dL_law_1120 : decode cL_law 1120 = .ok (.iaload, 1) := by decide +kernel
theorem dL_law_1121 : decode cL_law 1121 = .ok (.invokevirtual 134, 3) := by decide +kernel
theorem dL_law_1124 : decode cL_law 1124 = .ok (.if_icmp .eq 176, 3) := by decide +kernel
theorem dL_law_1127 : decode cL_law 1127 = .ok (.iconst 0, 1) := by decide +kernel
theorem dL_law_1128 : decode cL_law 1128 = .ok (.ireturn, 1) := by decide +kernel
theorem dL_law_1129 : decode cL_law 1129 = .ok (.aload_n 1, 1) := by decide +kernel
theorem dL_law_1130 : decode cL_law 1130 = .ok (.aload_n 0, 1) := by decide +kernel
theorem dL_law_1131 : decode cL_law 1131 = .ok (.iload_n 3, 1) := by decide +kernel
theorem dL_law_1132 : decode cL_law 1132 = .ok (.iconst 1, 1) := by decide +kernel
theorem dL_law_1133 : decode cL_law 1133 = .ok (.iadd, 1) := by decide +kernel
theorem dL_law_1134 : decode cL_law 1134 = .ok (.iaload, 1) := by decide +kernel
theorem dL_law_1135 : decode cL_law 1135 = .ok (.invokevirtual 135, 3) := by decide +kernel
theorem dL_law_1138 : decode cL_law 1138 = .ok (.aload_n 2, 1) := by decide +kernel
theorem dL_law_1139 : decode cL_law 1139 = .ok (.aload_n 0, 1) := by decide +kernel
theorem dL_law_1140 : decode cL_law 1140 = .ok (.iload_n 3, 1) := by decide +kernel
theorem dL_law_1141 : decode cL_law 1141 = .ok (.iconst 1, 1) := by decide +kernel
theorem dL_law_1142 : decode cL_law 1142 = .ok (.iadd, 1) := by decide +kernel
theorem dL_law_1143 : decode cL_law 1143 = .ok (.iaload, 1) := by decide +kernel
theorem dL_law_1144 : decode cL_law 1144 = .ok (.invokevirtual 138, 3) := by decide +kernel
theorem dL_law_1147 : decode cL_law 1147 = .ok (.if_icmp .eq 153, 3) := by decide +kernel
theorem dL_law_1150 : decode cL_law 1150 = .ok (.iconst 0, 1) := by decide +kernel
theorem dL_law_1151 : decode cL_law 1151 = .ok (.ireturn, 1) := by decide +kernel
theorem dL_law_1152 : decode cL_law 1152 = .ok (.aload_n 1, 1) := by decide +kernel
theorem dL_law_1153 : decode cL_law 1153 = .ok (.aload_n 0, 1) := by decide +kernel
theorem dL_law_1154 : decode cL_law 1154 = .ok (.iload_n 3, 1) := by decide +kernel
theorem dL_law_1155 : decode cL_law 1155 = .ok (.iconst 1, 1) := by decide +kernel
theorem dL_law_1156 : decode cL_law 1156 = .ok (.iadd, 1) := by decide +kernel
theorem dL_law_1157 : decode cL_law 1157 = .ok (.iaload, 1) := by decide +kernel
theorem dL_law_1158 : decode cL_law 1158 = .ok (.invokevirtual 139, 3) := by decide +kernel
theorem dL_law_1161 : decode cL_law 1161 = .ok (.aload_n 2, 1) := by decide +kernel
theorem dL_law_1162 : decode cL_law 1162 = .ok (.aload_n 0, 1) := by decide +kernel
theorem dL_law_1163 : decode cL_law 1163 = .ok (.iload_n 3, 1) := by decide +kernel
theorem dL_law_1164 : decode cL_law 1164 = .ok (.iconst 1, 1) := by decide +kernel
theorem dL_law_1165 : decode cL_law 1165 = .ok (.iadd, 1) := by decide +kernel
theorem dL_law_1166 : decode cL_law 1166 = .ok (.iaload, 1) := by decide +kernel
theorem dL_law_1167 : decode cL_law 1167 = .ok (.invokevirtual 142, 3) := by decide +kernel
theorem dL_law_1170 : decode cL_law 1170 = .ok (.if_icmp .eq 130, 3) := by decide +kernel
theorem dL_law_1173 : decode cL_law 1173 = .ok (.iconst 0, 1) := by decide +kernel
theorem dL_law_1174 : decode cL_law 1174 = .ok (.ireturn, 1) := by decide +kernel
theorem dL_law_1175 : decode cL_law 1175 = .ok (.aload_n 1, 1) := by decide +kernel
theorem dL_law_1176 : decode cL_law 1176 = .ok (.aload_n 0, 1) := by decide +kernel
theorem dL_law_1177 : decode cL_law 1177 = .ok (.iload_n 3, 1) := by decide +kernel
theorem dL_law_1178 : decode cL_law 1178 = .ok (.iconst 1, 1) := by decide +kernel
theorem dL_law_1179 : decode cL_law 1179 = .ok (.iadd, 1) := by decide +kernel
theorem dL_law_1180 : decode cL_law 1180 = .ok (.iaload, 1) := by decide +kernel
theorem dL_law_1181 : decode cL_law 1181 = .ok (.aload_n 0, 1) := by decide +kernel
theorem dL_law_1182 : decode cL_law 1182 = .ok (.iload_n 3, 1) := by decide +kernel
theorem dL_law_1183 : decode cL_law 1183 = .ok (.iconst 2, 1) := by decide +kernel
theorem dL_law_1184 : decode cL_law 1184 = .ok (.iadd, 1) := by decide +kernel
theorem dL_law_1185 : decode cL_law 1185 = .ok (.iaload, 1) := by decide +kernel
theorem dL_law_1186 : decode cL_law 1186 = .ok (.invokevirtual 143, 3) := by decide +kernel
theorem dL_law_1189 : decode cL_law 1189 = .ok (.aload_n 2, 1) := by decide +kernel
theorem dL_law_1190 : decode cL_law 1190 = .ok (.aload_n 0, 1) := by decide +kernel
theorem dL_law_1191 : decode cL_law 1191 = .ok (.iload_n 3, 1) := by decide +kernel
theorem dL_law_1192 : decode cL_law 1192 = .ok (.iconst 1, 1) := by decide +kernel
theorem dL_law_1193 : decode cL_law 1193 = .ok (.iadd, 1) := by decide +kernel
theorem dL_law_1194 : decode cL_law 1194 = .ok (.iaload, 1) := by decide +kernel
theorem dL_law_1195 : decode cL_law 1195 = .ok (.aload_n 0, 1) := by decide +kernel
theorem dL_law_1196 : decode cL_law 1196 = .ok (.iload_n 3, 1) := by decide +kernel
theorem dL_law_1197 : decode cL_law 1197 = .ok (.iconst 2, 1) := by decide +kernel
theorem dL_law_1198 : decode cL_law 1198 = .ok (.iadd, 1) := by decide +kernel
theorem dL_law_1199 : decode cL_law 1199 = .ok (.iaload, 1) := by decide +kernel
theorem dL_law_1200 : decode cL_law 1200 = .ok (.invokevirtual 146, 3) := by decide +kernel
theorem dL_law_1203 : decode cL_law 1203 = .ok (.if_icmp .eq 97, 3) := by decide +kernel
theorem dL_law_1206 : decode cL_law 1206 = .ok (.iconst 0, 1) := by decide +kernel
theorem dL_law_1207 : decode cL_law 1207 = .ok (.ireturn, 1) := by decide +kernel
theorem dL_law_1208 : decode cL_law 1208 = .ok (.aload_n 1, 1) := by decide +kernel
theorem dL_law_1209 : decode cL_law 1209 = .ok (.aload_n 0, 1) := by decide +kernel
theorem dL_law_1210 : decode cL_law 1210 = .ok (.iload_n 3, 1) := by decide +kernel
theorem dL_law_1211 : decode cL_law 1211 = .ok (.iconst 1, 1) := by decide +kernel
theorem dL_law_1212 : decode cL_law 1212 = .ok (.iadd, 1) := by decide +kernel
theorem dL_law_1213 : decode cL_law 1213 = .ok (.iaload, 1) := by decide +kernel
theorem dL_law_1214 : decode cL_law 1214 = .ok (.aload_n 0, 1) := by decide +kernel
theorem dL_law_1215 : decode cL_law 1215 = .ok (.iload_n 3, 1) := by decide +kernel
theorem dL_law_1216 : decode cL_law 1216 = .ok (.iconst 2, 1) := by decide +kernel
theorem dL_law_1217 : decode cL_law 1217 = .ok (.iadd, 1) := by decide +kernel
theorem dL_law_1218 : decode cL_law 1218 = .ok (.iaload, 1) := by decide +kernel
theorem dL_law_1219 : decode cL_law 1219 = .ok (.invokevirtual 147, 3) := by decide +kernel
theorem dL_law_1222 : decode cL_law 1222 = .ok (.aload_n 2, 1) := by decide +kernel
theorem dL_law_1223 : decode cL_law 1223 = .ok (.aload_n 0, 1) := by decide +kernel
theorem dL_law_1224 : decode cL_law 1224 = .ok (.iload_n 3, 1) := by decide +kernel
theorem dL_law_1225 : decode cL_law 1225 = .ok (.iconst 1, 1) := by decide +kernel
theorem dL_law_1226 : decode cL_law 1226 = .ok (.iadd, 1) := by decide +kernel
theorem dL_law_1227 : decode cL_law 1227 = .ok (.iaload, 1) := by decide +kernel
theorem dL_law_1228 : decode cL_law 1228 = .ok (.aload_n 0, 1) := by decide +kernel
theorem dL_law_1229 : decode cL_law 1229 = .ok (.iload_n 3, 1) := by decide +kernel
theorem dL_law_1230 : decode cL_law 1230 = .ok (.iconst 2, 1) := by decide +kernel
theorem dL_law_1231 : decode cL_law 1231 = .ok (.iadd, 1) := by decide +kernel
theorem dL_law_1232 : decode cL_law 1232 = .ok (.iaload, 1) := by decide +kernel
theorem dL_law_1233 : decode cL_law 1233 = .ok (.invokevirtual 150, 3) := by decide +kernel
theorem dL_law_1236 : decode cL_law 1236 = .ok (.if_icmp .eq 64, 3) := by decide +kernel
theorem dL_law_1239 : decode cL_law 1239 = .ok (.iconst 0, 1) := by decide +kernel
theorem dL_law_1240 : decode cL_law 1240 = .ok (.ireturn, 1) := by decide +kernel
theorem dL_law_1241 : decode cL_law 1241 = .ok (.aload_n 1, 1) := by decide +kernel
theorem dL_law_1242 : decode cL_law 1242 = .ok (.aload_n 0, 1) := by decide +kernel
theorem dL_law_1243 : decode cL_law 1243 = .ok (.iload_n 3, 1) := by decide +kernel
theorem dL_law_1244 : decode cL_law 1244 = .ok (.iconst 1, 1) := by decide +kernel
theorem dL_law_1245 : decode cL_law 1245 = .ok (.iadd, 1) := by decide +kernel
theorem dL_law_1246 : decode cL_law 1246 = .ok (.iaload, 1) := by decide +kernel
theorem dL_law_1247 : decode cL_law 1247 = .ok (.invokevirtual 151, 3) := by decide +kernel
theorem dL_law_1250 : decode cL_law 1250 = .ok (.aload_n 2, 1) := by decide +kernel
theorem dL_law_1251 : decode cL_law 1251 = .ok (.aload_n 0, 1) := by decide +kernel
theorem dL_law_1252 : decode cL_law 1252 = .ok (.iload_n 3, 1) := by decide +kernel
theorem dL_law_1253 : decode cL_law 1253 = .ok (.iconst 1, 1) := by decide +kernel
theorem dL_law_1254 : decode cL_law 1254 = .ok (.iadd, 1) := by decide +kernel
theorem dL_law_1255 : decode cL_law 1255 = .ok (.iaload, 1) := by decide +kernel
theorem dL_law_1256 : decode cL_law 1256 = .ok (.invokevirtual 154, 3) := by decide +kernel
theorem dL_law_1259 : decode cL_law 1259 = .ok (.if_icmp .eq 41, 3) := by decide +kernel
theorem dL_law_1262 : decode cL_law 1262 = .ok (.iconst 0, 1) := by decide +kernel
theorem dL_law_1263 : decode cL_law 1263 = .ok (.ireturn, 1) := by decide +kernel
theorem dL_law_1264 : decode cL_law 1264 = .ok (.aload_n 1, 1) := by decide +kernel
theorem dL_law_1265 : decode cL_law 1265 = .ok (.aload_n 0, 1) := by decide +kernel
theorem dL_law_1266 : decode cL_law 1266 = .ok (.iload_n 3, 1) := by decide +kernel
theorem dL_law_1267 : decode cL_law 1267 = .ok (.iconst 1, 1) := by decide +kernel
theorem dL_law_1268 : decode cL_law 1268 = .ok (.iadd, 1) := by decide +kernel
theorem dL_law_1269 : decode cL_law 1269 = .ok (.iaload, 1) := by decide +kernel
theorem dL_law_1270 : decode cL_law 1270 = .ok (.invokevirtual 155, 3) := by decide +kernel
theorem dL_law_1273 : decode cL_law 1273 = .ok (.aload_n 2, 1) := by decide +kernel
theorem dL_law_1274 : decode cL_law 1274 = .ok (.aload_n 0, 1) := by decide +kernel
theorem dL_law_1275 : decode cL_law 1275 = .ok (.iload_n 3, 1) := by decide +kernel
theorem dL_law_1276 : decode cL_law 1276 = .ok (.iconst 1, 1) := by decide +kernel
theorem dL_law_1277 : decode cL_law 1277 = .ok (.iadd, 1) := by decide +kernel
theorem dL_law_1278 : decode cL_law 1278 = .ok (.iaload, 1) := by decide +kernel
theorem dL_law_1279 : decode cL_law 1279 = .ok (.invokevirtual 158, 3) := by decide +kernel
theorem dL_law_1282 : decode cL_law 1282 = .ok (.if_icmp .eq 18, 3) := by decide +kernel
theorem dL_law_1285 : decode cL_law 1285 = .ok (.iconst 0, 1) := by decide +kernel
theorem dL_law_1286 : decode cL_law 1286 = .ok (.ireturn, 1) := by decide +kernel
theorem dL_law_1287 : decode cL_law 1287 = .ok (.aload_n 1, 1) := by decide +kernel
theorem dL_law_1288 : decode cL_law 1288 = .ok (.invokevirtual 159, 3) := by decide +kernel
theorem dL_law_1291 : decode cL_law 1291 = .ok (.aload_n 2, 1) := by decide +kernel
theorem dL_law_1292 : decode cL_law 1292 = .ok (.invokevirtual 162, 3) := by decide +kernel
theorem dL_law_1295 : decode cL_law 1295 = .ok (.if_icmp .eq 5, 3) := by decide +kernel
theorem dL_law_1298 : decode cL_law 1298 = .ok (.iconst 0, 1) := by decide +kernel
theorem dL_law_1299 : decode cL_law 1299 = .ok (.ireturn, 1) := by decide +kernel
theorem dL_law_1300 : decode cL_law 1300 = .ok (.iinc 3 6, 3) := by decide +kernel
theorem dL_law_1303 : decode cL_law 1303 = .ok (.goto (-1285), 3) := by decide +kernel
theorem dL_law_1306 : decode cL_law 1306 = .ok (.iconst 1, 1) := by decide +kernel
theorem dL_law_1307 : decode cL_law 1307 = .ok (.ireturn, 1) := by decide +kernel
end
section
/-! ===== the memory picture: 93 cells of fixed shape, ints by (cell, slot); references never change ===== -/
abbrev m_G : Type := Nat → Nat → Int32
def m_ur (g : m_G) (k : Nat) (f : Nat → Int32) : m_G := fun a => if a = k then f else g a
def m_up (g : m_G) (k j : Nat) (v : Int32) : m_G := m_ur g k (upd (g k) j v)
def m_hl5 : List (Nat × Nat) := [(1, 0), (22, 6), (3, 0), (20, 10), (2, 0), (2, 0), (2, 0), (2, 0), (2, 0), (2, 0)]
def m_shL : List (Nat × Nat) := [(8, 0), (23, 8), (4, 0), (4, 0), (4, 0), (4, 0), (4, 0), (4, 0), (4, 0), (4, 0), (20, 40), (20, 40), (20, 40), (20, 40), (20, 40), (20, 40), (20, 40), (20, 40), (6, 0), (20, 100), (0, 0), (20, 24), (20, 24), (20, 24), (5, 0), (7, 0), (20, 16), (24, 2)] ++ (m_hl5 ++ (m_hl5 ++ (m_hl5 ++ (m_hl5 ++ m_hl5)))) ++ [(9, 0), (20, 1092), (21, 2), (20, 8), (20, 8), (20, 320), (20, 100), (20, 16), (20, 6), (20, 6), (20, 6), (20, 10), (20, 4), (20, 4), (20, 6)]
def m_sh (k : Nat) : Nat × Nat := m_shL.getD k (99, 0)
def m_nf (t : Nat) : Nat := [4, 12, 5, 6, 4, 2, 5, 2, 10, 24].getD t 0
def m_ir (t j : Nat) : Bool := match t with
  | 0 => decide (j < 3)
  | 1 => decide (j < 2)
  | 2 => false
  | 3 => decide (j = 0)
  | 4 => decide (j = 0)
  | 5 => decide (j = 0)
  | 6 => decide (j = 0)
  | 7 => decide (j = 0)
  | 8 => decide (j < 8)
  | _ => [0, 3, 4, 5, 6, 7, 11, 16, 17, 18, 19, 21, 22, 23].elem j
def m_rt (t k j : Nat) : Nat := match t with
  | 0 => 21 + j
  | 1 => k + 1 + j
  | 3 => k + 1
  | 4 => k + 8
  | 5 => 68
  | 6 => 19
  | 7 => 26
  | 8 => [1, 18, 28, 38, 27, 20, 24, 25].getD j 0
  | 9 => [79, 0, 0, 80, 81, 82, 83, 84, 0, 0, 0, 85, 0, 0, 0, 0, 86, 87, 88, 89, 0, 90, 91, 92].getD j 0
  | 22 => k + 3 + j
  | 23 => 2 + j
  | _ => 48 + 10 * j
def m_rf (k j : Nat) : Nat := m_rt (m_sh k).1 k j
def m_fs (ad : Nat → Nat) (g : m_G) (k : Nat) : List Value := (List.range (m_nf (m_sh k).1)).map (fun j => if m_ir (m_sh k).1 j = true then Value.ref (ad (m_rf k j)) else Value.int (g k j))
def m_ce (cy : Nat → ClassId) (ad : Nat → Nat) (g : m_G) (k : Nat) : va_E :=
  if (m_sh k).1 < 10 then .inr ((m_sh k).1, m_fs ad g k)
  else if (m_sh k).1 < 22 then .inl (cy ((m_sh k).1 - 20), (m_sh k).2, .inl (g k))
  else .inl (cy ((m_sh k).1 - 20), (m_sh k).2, .inr (.inr (.inr (.inr (fun i => some (ad (m_rf k i)))))))
def m_ws (cy : Nat → ClassId) (ad : Nat → Nat) (g : m_G) : va_W := (List.range 93).map (fun k => (ad k, m_ce cy ad g k))
def m_ty (cy : Nat → ClassId) : List (ClassId × FieldType) := [(cy 0, .int), (cy 1, .boolean), (cy 2, .object "SaintHill$House"), (cy 3, .object "SaintHill$Row"), (cy 4, .object "SaintHill$Hill")]
abbrev m_cl : List vw_C := [(RX0, TX0, 4), (RX1, TX1, 12), (RX2, TX2, 5), (RX3, TX3, 6), (RX4, TX4, 4), (RX5, TX5, 2), (RX6, TX6, 5), (RX7, TX7, 2), (RX8, TX8, 10), (RX9, TX9, 24)]
def m_cr (t : Nat) : vw_C := m_cl.getD t (RX0, TX0, 0)
def m_ro (SL : Nat) : List (Nat × Nat) := [(200, SL), (201, 6), (202, 6), (203, 6), (204, 6), (205, 6)]
def m_sta : List (String × String × Nat) := [("SaintHill", "WIDER", 201), ("SaintHill$Hill", "LEAST", 202), ("SaintHill$Hill", "MOST", 203), ("SaintHill$Trace", "SIZE_BODY", 204), ("SaintHill$Trace", "MARK_BODY", 205)]
def m_isN : Cond → Bool
  | .fieldLinkNest .. => true
  | .methodLinkNest .. => true
  | _ => false
def m_gw : List Cond := lw_tbl.filter goodWord
def m_nw : List Cond := lw_tbl.filter m_isN
def m_cv (ad : Nat → Nat) : Value → Value
  | .ref k => .ref (ad k)
  | v => v
theorem m_cv_cat (ad : Nat → Nat) (v : Value) : (m_cv ad v).category = v.category := by cases v <;> rfl
theorem m_ws_get {cy : Nat → ClassId} {ad : Nat → Nat} {g : m_G} {k : Nat} (h : k < 93) : (m_ws cy ad g)[k]? = some (ad k, m_ce cy ad g k) := by
  simp [m_ws, h]
theorem m_ws_set {cy : Nat → ClassId} {ad : Nat → Nat} {g : m_G} {k : Nat} {f : Nat → Int32} {e : va_E} (h : k < 93) (he : e = m_ce cy ad (m_ur g k f) k) : (m_ws cy ad g).set k (ad k, e) = m_ws cy ad (m_ur g k f) := by
  apply List.ext_getElem?
  intro j
  by_cases hj : j = k
  · subst hj
    rw [m_ws_get h, List.getElem?_set_self (by simp [m_ws]; exact h), he]
  · rw [List.getElem?_set_ne (Ne.symm hj)]
    by_cases hl : j < 93
    · rw [m_ws_get hl, m_ws_get hl]
      have e1 : m_ur g k f j = g j := by simp [m_ur, hj]
      have e2 : m_ce cy ad (m_ur g k f) j = m_ce cy ad g j := by
        have e3 : m_fs ad (m_ur g k f) j = m_fs ad g j := by unfold m_fs; rw [e1]
        unfold m_ce; rw [e1, e3]
      rw [e2]
    · rw [List.getElem?_eq_none (by simp [m_ws]; omega), List.getElem?_eq_none (by simp [m_ws]; omega)]
theorem m_fs_get {ad : Nat → Nat} {g : m_G} {k j : Nat} (h : j < m_nf (m_sh k).1) : (m_fs ad g k)[j]? = some (if m_ir (m_sh k).1 j = true then Value.ref (ad (m_rf k j)) else Value.int (g k j)) := by
  simp [m_fs, h]
theorem m_fs_len {ad : Nat → Nat} {g : m_G} {k : Nat} : (m_fs ad g k).length = m_nf (m_sh k).1 := by simp [m_fs]
theorem m_fs_set {ad : Nat → Nat} {g : m_G} {k j : Nat} {v : Int32} (h : j < m_nf (m_sh k).1) (hr : m_ir (m_sh k).1 j = false) : (m_fs ad g k).set j (.int v) = m_fs ad (m_up g k j v) k := by
  apply List.ext_getElem?
  intro i
  by_cases hi : i = j
  · subst hi
    rw [List.getElem?_set_self (by rw [m_fs_len]; exact h), m_fs_get h, hr]
    simp [m_up, m_ur, upd]
  · rw [List.getElem?_set_ne (Ne.symm hi)]
    by_cases hl : i < m_nf (m_sh k).1
    · rw [m_fs_get hl, m_fs_get hl]
      simp [m_up, m_ur, upd, hi]
    · rw [List.getElem?_eq_none (by rw [m_fs_len]; omega), List.getElem?_eq_none (by rw [m_fs_len]; omega)]
theorem m_ce_ob {cy : Nat → ClassId} {ad : Nat → Nat} {g : m_G} {k t : Nat} (h : (m_sh k).1 = t) (ht : t < 10) : m_ce cy ad g k = .inr (t, m_fs ad g k) := by
  unfold m_ce; rw [h, if_pos ht]
theorem m_ce_ar {cy : Nat → ClassId} {ad : Nat → Nat} {g : m_G} {k n : Nat} (h : m_sh k = (20, n)) : m_ce cy ad g k = .inl (cy 0, n, .inl (g k)) := by
  unfold m_ce; rw [h]; rfl
theorem m_ce_az {cy : Nat → ClassId} {ad : Nat → Nat} {g : m_G} {k n : Nat} (h : m_sh k = (21, n)) : m_ce cy ad g k = .inl (cy 1, n, .inl (g k)) := by
  unfold m_ce; rw [h]; rfl
theorem m_ce_aq {cy : Nat → ClassId} {ad : Nat → Nat} {g : m_G} {k t n : Nat} (h : m_sh k = (22 + t, n)) : m_ce cy ad g k = .inl (cy (2 + t), n, .inr (.inr (.inr (.inr (fun i => some (ad (m_rf k i))))))) := by
  unfold m_ce; rw [h]
  rw [if_neg (by show ¬ 22 + t < 10; omega), if_neg (by show ¬ 22 + t < 22; omega), show 22 + t - 20 = 2 + t by omega]
theorem m_lt93 {k t n : Nat} (h : m_sh k = (t, n)) (ht : t < 99) : k < 93 := by
  rcases Nat.lt_or_ge k 93 with q | q
  · exact q
  · have h2 : m_sh k = (99, 0) := by
      unfold m_sh
      rw [List.getD_eq_getElem?_getD, List.getElem?_eq_none (by exact q)]; rfl
    rw [h2] at h
    have : (99 : Nat) = t := congrArg Prod.fst h
    omega
/-! ===== the judgement ===== -/
def m_HL (ls : Array Slot) (nL : Nat) (L : List Value) (ad : Nat → Nat) : Prop := ls.size = nL ∧ lv_wf ls ∧ ∀ (i : Nat) (v : Value), L[i]? = some v → v ≠ .null → ls[i]? = some (.val (m_cv ad v))
def m_C (SL d : Nat) (p : Program) (R : Room) (s : State) (m : MethodId) (args : Array Value) (meth : Method) (c : Code) (cells slots : Nat) (y : MethodName) (cc : ByteArray) (nL : Nat) (ret : Option FieldType) (A : Nat → Prop) (dC : Nat → ClassId) (dI : Nat → Nat → Nat) (cy : Nat → ClassId) (ad : Nat → Nat) (g0 : m_G) : Prop :=
  p.tables.exec = Jvm.exec ∧ c.code = cc ∧ c.maxLocals = nL ∧ meth.sig.returnType = ret ∧ meth.locks = false ∧ s.vm.findClass y.cls = some m.cls ∧ (∀ w ∈ m_gw, w.before args s = true) ∧ (∀ w ∈ m_nw, va_Nw w s) ∧ (∀ q, s.heap.size ≤ q → A q) ∧ va_K (dC, dI) m_cl (m_ty cy) s ∧ (d ≤ R.frames ∧ 60 * d ≤ R.locals) ∧ (∀ q ∈ m_sta, va_Z q.1 q.2.1 "[I" (.ref (ad q.2.2)) A s s.heap) ∧ (∀ q ∈ m_ro SL, va_T .int (ad q.1) q.2 (fun j => .int (g0 q.1 j)) A s s.heap) ∧ cells ≤ R.cells ∧ slots ≤ R.slots
def m_W (s : State) (A : Nat → Prop) (dC : Nat → ClassId) (dI : Nat → Nat → Nat) (cy : Nat → ClassId) (ad : Nat → Nat) (g0 g : m_G) (H : Heap) (locs : List Loc) : Prop :=
  va_P (dC, dI) m_cl (m_ws cy ad g) H ∧ va_D A (m_ws cy ad g) ∧ va_S A s.heap H locs ∧ ∀ k, 93 ≤ k → g k = g0 k
def m_nar (ret : Option FieldType) (r : Int32) : Prop := ∀ ty, ret = some ty → narrow ty (.int r) = .int r
def m_R (p : Program) (l : Launch) (e : Env) (R : Room) (s : State) (m : MethodId) (args : Array Value) (below : List Frame) (meth : Method) (c : Code) (cells slots : Nat) (Z : State → Prop) (cc : ByteArray) (ret : Option FieldType) (A : Nat → Prop) (dC : Nat → ClassId) (dI : Nat → Nat → Nat) (cy : Nat → ClassId) (ad : Nat → Nat) (g0 : m_G) (Q : Option Int32 → m_G → Prop) : Prop :=
  ∀ (g' : m_G) (H' : Heap) (locs' : List Loc) (pc' : Nat) (ls' : Array Slot), m_W s A dC dI cy ad g0 g' H' locs' →
    (∀ r, (∃ ty, ret = some ty) → Q (some r) g' → m_nar ret r → decode cc pc' = .ok (.ireturn, 1) → W p l e R s m args below meth c H' locs' cells slots Z (F0 m pc' ls' [.int r])) ∧
    (ret = none → Q none g' → decode cc pc' = .ok (.return_, 1) → W p l e R s m args below meth c H' locs' cells slots Z (F0 m pc' ls' []))
def Sim (SL d : Nat) (y : MethodName) (cc : ByteArray) (nL : Nat) (ret : Option FieldType) (pc : Nat) (L st : List Value) (g : m_G) (Q : Option Int32 → m_G → Prop) : Prop :=
  ∀ {p : Program} {l : Launch} {e : Env} {R : Room} {s : State} {m : MethodId} {args : Array Value} {below : List Frame} {meth : Method} {c : Code} {H : Heap} {locs : List Loc} {cells slots : Nat} {Z : State → Prop} {A : Nat → Prop} {dC : Nat → ClassId} {dI : Nat → Nat → Nat} {cy : Nat → ClassId} {ad : Nat → Nat} {ls : Array Slot} {g0 : m_G},
    m_C SL d p R s m args meth c cells slots y cc nL ret A dC dI cy ad g0 → m_R p l e R s m args below meth c cells slots Z cc ret A dC dI cy ad g0 Q → m_W s A dC dI cy ad g0 g H locs → m_HL ls nL L ad →
    W p l e R s m args below meth c H locs cells slots Z (F0 m pc ls (st.map (m_cv ad)))

section SIMROWS
variable {SL d : Nat} {y : MethodName} {cc : ByteArray} {nL : Nat} {ret : Option FieldType} {pc n : Nat} {L L2 st : List Value} {g : m_G} {Q : Option Int32 → m_G → Prop}
theorem s_iconst {z : Int} {v : Int32} (hd : decode cc pc = .ok (.iconst z, 1)) (hn : n = pc + 1) (hv : Int32.ofInt z = v) (k : Sim SL d y cc nL ret n L (.int v :: st) g Q) : Sim SL d y cc nL ret pc L (st) g Q := by
  intro p l e R s m args below meth c H locs cells slots Z A dC dI cy ad ls g0 hC hR hW hL
  subst hn
  exact lv_iconst hC.1 hC.2.1 hd hv (k hC hR hW hL)
theorem s_bipush {z : Int} {v : Int32} (hd : decode cc pc = .ok (.bipush z, 2)) (hn : n = pc + 2) (hv : (Int8.ofInt z).toInt32 = v) (k : Sim SL d y cc nL ret n L (.int v :: st) g Q) : Sim SL d y cc nL ret pc L (st) g Q := by
  intro p l e R s m args below meth c H locs cells slots Z A dC dI cy ad ls g0 hC hR hW hL
  subst hn
  exact lv_bipush hC.1 hC.2.1 hd hv (k hC hR hW hL)
theorem s_sipush {z : Int} {v : Int32} (hd : decode cc pc = .ok (.sipush z, 3)) (hn : n = pc + 3) (hv : (Int16.ofInt z).toInt32 = v) (k : Sim SL d y cc nL ret n L (.int v :: st) g Q) : Sim SL d y cc nL ret pc L (st) g Q := by
  intro p l e R s m args below meth c H locs cells slots Z A dC dI cy ad ls g0 hC hR hW hL
  subst hn
  exact lv_sipush hC.1 hC.2.1 hd hv (k hC hR hW hL)
theorem s_lconst {z : Fin 2} {v : Int64} (hd : decode cc pc = .ok (.lconst z, 1)) (hn : n = pc + 1) (hv : Int64.ofNat (z : Nat) = v) (k : Sim SL d y cc nL ret n L (.long v :: st) g Q) : Sim SL d y cc nL ret pc L (st) g Q := by
  intro p l e R s m args below meth c H locs cells slots Z A dC dI cy ad ls g0 hC hR hW hL
  subst hn
  exact lv_lconst hC.1 hC.2.1 hd hv (k hC hR hW hL)
theorem s_ldc {ix : Nat} {v : Int32} (hd : decode cc pc = .ok (.ldc ix, 2)) (hn : n = pc + 2) (hw : Cond.constant y.cls ix v ∈ m_gw) (k : Sim SL d y cc nL ret n L (.int v :: st) g Q) : Sim SL d y cc nL ret pc L (st) g Q := by
  intro p l e R s m args below meth c H locs cells slots Z A dC dI cy ad ls g0 hC hR hW hL
  subst hn
  exact lv_ldc hC.1 hC.2.1 hC.2.2.2.2.2.1 (hC.2.2.2.2.2.2.1 _ hw) hd (k hC hR hW hL)
theorem s_ldcw {ix : Nat} {v : Int32} (hd : decode cc pc = .ok (.ldc_w ix, 3)) (hn : n = pc + 3) (hw : Cond.constant y.cls ix v ∈ m_gw) (k : Sim SL d y cc nL ret n L (.int v :: st) g Q) : Sim SL d y cc nL ret pc L (st) g Q := by
  intro p l e R s m args below meth c H locs cells slots Z A dC dI cy ad ls g0 hC hR hW hL
  subst hn
  exact lv_ldcw hC.1 hC.2.1 hC.2.2.2.2.2.1 (hC.2.2.2.2.2.2.1 _ hw) hd (k hC hR hW hL)
theorem s_ldc2 {ix : Nat} {v : Int64} (hd : decode cc pc = .ok (.ldc2_w ix, 3)) (hn : n = pc + 3) (hw : Cond.constantLong y.cls ix v ∈ m_gw) (k : Sim SL d y cc nL ret n L (.long v :: st) g Q) : Sim SL d y cc nL ret pc L (st) g Q := by
  intro p l e R s m args below meth c H locs cells slots Z A dC dI cy ad ls g0 hC hR hW hL
  subst hn
  exact lv_ldc2 hC.1 hC.2.1 hC.2.2.2.2.2.1 (hC.2.2.2.2.2.2.1 _ hw) hd (k hC hR hW hL)
theorem s_iload_n {q : Fin 4} {i : Nat} {x : Int32} (hd : decode cc pc = .ok (.iload_n q, 1)) (hn : n = pc + 1) (hi : (q : Nat) = i) (hl : L[i]? = some (.int x)) (k : Sim SL d y cc nL ret n L (.int x :: st) g Q) : Sim SL d y cc nL ret pc L (st) g Q := by
  intro p l e R s m args below meth c H locs cells slots Z A dC dI cy ad ls g0 hC hR hW hL
  subst hn
  exact lv_iload_n hC.1 hC.2.1 hd hi (hL.2.2 _ _ hl (fun h => by cases h)) (k hC hR hW hL)
theorem s_lload_n {q : Fin 4} {i : Nat} {x : Int64} (hd : decode cc pc = .ok (.lload_n q, 1)) (hn : n = pc + 1) (hi : (q : Nat) = i) (hl : L[i]? = some (.long x)) (k : Sim SL d y cc nL ret n L (.long x :: st) g Q) : Sim SL d y cc nL ret pc L (st) g Q := by
  intro p l e R s m args below meth c H locs cells slots Z A dC dI cy ad ls g0 hC hR hW hL
  subst hn
  exact lv_lload_n hC.1 hC.2.1 hd hi (hL.2.2 _ _ hl (fun h => by cases h)) (k hC hR hW hL)
theorem s_aload_n {q : Fin 4} {i : Nat} {x : Nat} (hd : decode cc pc = .ok (.aload_n q, 1)) (hn : n = pc + 1) (hi : (q : Nat) = i) (hl : L[i]? = some (.ref x)) (k : Sim SL d y cc nL ret n L (.ref x :: st) g Q) : Sim SL d y cc nL ret pc L (st) g Q := by
  intro p l e R s m args below meth c H locs cells slots Z A dC dI cy ad ls g0 hC hR hW hL
  subst hn
  exact lv_aload_n hC.1 hC.2.1 hd hi (hL.2.2 _ _ hl (fun h => by cases h)) (k hC hR hW hL)
theorem s_iload {i : Nat} {x : Int32} (hd : decode cc pc = .ok (.iload i, 2)) (hn : n = pc + 2) (hl : L[i]? = some (.int x)) (k : Sim SL d y cc nL ret n L (.int x :: st) g Q) : Sim SL d y cc nL ret pc L (st) g Q := by
  intro p l e R s m args below meth c H locs cells slots Z A dC dI cy ad ls g0 hC hR hW hL
  subst hn
  exact lv_iload hC.1 hC.2.1 hd (hL.2.2 _ _ hl (fun h => by cases h)) (k hC hR hW hL)
theorem s_lload {i : Nat} {x : Int64} (hd : decode cc pc = .ok (.lload i, 2)) (hn : n = pc + 2) (hl : L[i]? = some (.long x)) (k : Sim SL d y cc nL ret n L (.long x :: st) g Q) : Sim SL d y cc nL ret pc L (st) g Q := by
  intro p l e R s m args below meth c H locs cells slots Z A dC dI cy ad ls g0 hC hR hW hL
  subst hn
  exact lv_lload hC.1 hC.2.1 hd (hL.2.2 _ _ hl (fun h => by cases h)) (k hC hR hW hL)
theorem s_aload {i : Nat} {x : Nat} (hd : decode cc pc = .ok (.aload i, 2)) (hn : n = pc + 2) (hl : L[i]? = some (.ref x)) (k : Sim SL d y cc nL ret n L (.ref x :: st) g Q) : Sim SL d y cc nL ret pc L (st) g Q := by
  intro p l e R s m args below meth c H locs cells slots Z A dC dI cy ad ls g0 hC hR hW hL
  subst hn
  exact lv_aload hC.1 hC.2.1 hd (hL.2.2 _ _ hl (fun h => by cases h)) (k hC hR hW hL)
theorem s_iadd {a b : Int32} (hd : decode cc pc = .ok (.iadd, 1)) (hn : n = pc + 1) (k : Sim SL d y cc nL ret n L (.int (a + b) :: st) g Q) : Sim SL d y cc nL ret pc L (.int b :: .int a :: st) g Q := by
  intro p l e R s m args below meth c H locs cells slots Z A dC dI cy ad ls g0 hC hR hW hL
  subst hn
  exact lv_iadd hC.1 hC.2.1 hd (k hC hR hW hL)
theorem s_isub {a b : Int32} (hd : decode cc pc = .ok (.isub, 1)) (hn : n = pc + 1) (k : Sim SL d y cc nL ret n L (.int (a - b) :: st) g Q) : Sim SL d y cc nL ret pc L (.int b :: .int a :: st) g Q := by
  intro p l e R s m args below meth c H locs cells slots Z A dC dI cy ad ls g0 hC hR hW hL
  subst hn
  exact lv_isub hC.1 hC.2.1 hd (k hC hR hW hL)
theorem s_imul {a b : Int32} (hd : decode cc pc = .ok (.imul, 1)) (hn : n = pc + 1) (k : Sim SL d y cc nL ret n L (.int (a * b) :: st) g Q) : Sim SL d y cc nL ret pc L (.int b :: .int a :: st) g Q := by
  intro p l e R s m args below meth c H locs cells slots Z A dC dI cy ad ls g0 hC hR hW hL
  subst hn
  exact lv_imul hC.1 hC.2.1 hd (k hC hR hW hL)
theorem s_iand {a b : Int32} (hd : decode cc pc = .ok (.iand, 1)) (hn : n = pc + 1) (k : Sim SL d y cc nL ret n L (.int (a &&& b) :: st) g Q) : Sim SL d y cc nL ret pc L (.int b :: .int a :: st) g Q := by
  intro p l e R s m args below meth c H locs cells slots Z A dC dI cy ad ls g0 hC hR hW hL
  subst hn
  exact lv_iand hC.1 hC.2.1 hd (k hC hR hW hL)
theorem s_ior {a b : Int32} (hd : decode cc pc = .ok (.ior, 1)) (hn : n = pc + 1) (k : Sim SL d y cc nL ret n L (.int (a ||| b) :: st) g Q) : Sim SL d y cc nL ret pc L (.int b :: .int a :: st) g Q := by
  intro p l e R s m args below meth c H locs cells slots Z A dC dI cy ad ls g0 hC hR hW hL
  subst hn
  exact lv_ior hC.1 hC.2.1 hd (k hC hR hW hL)
theorem s_ixor {a b : Int32} (hd : decode cc pc = .ok (.ixor, 1)) (hn : n = pc + 1) (k : Sim SL d y cc nL ret n L (.int (a ^^^ b) :: st) g Q) : Sim SL d y cc nL ret pc L (.int b :: .int a :: st) g Q := by
  intro p l e R s m args below meth c H locs cells slots Z A dC dI cy ad ls g0 hC hR hW hL
  subst hn
  exact lv_ixor hC.1 hC.2.1 hd (k hC hR hW hL)
theorem s_ishl {a b : Int32} (hd : decode cc pc = .ok (.ishl, 1)) (hn : n = pc + 1) (k : Sim SL d y cc nL ret n L (.int (a <<< (b &&& 31)) :: st) g Q) : Sim SL d y cc nL ret pc L (.int b :: .int a :: st) g Q := by
  intro p l e R s m args below meth c H locs cells slots Z A dC dI cy ad ls g0 hC hR hW hL
  subst hn
  exact lv_ishl hC.1 hC.2.1 hd (k hC hR hW hL)
theorem s_ishr {a b : Int32} (hd : decode cc pc = .ok (.ishr, 1)) (hn : n = pc + 1) (k : Sim SL d y cc nL ret n L (.int (a >>> (b &&& 31)) :: st) g Q) : Sim SL d y cc nL ret pc L (.int b :: .int a :: st) g Q := by
  intro p l e R s m args below meth c H locs cells slots Z A dC dI cy ad ls g0 hC hR hW hL
  subst hn
  exact lv_ishr hC.1 hC.2.1 hd (k hC hR hW hL)
theorem s_idiv {a b : Int32} (hd : decode cc pc = .ok (.idiv, 1)) (hn : n = pc + 1) (hz : ¬ b = 0) (k : Sim SL d y cc nL ret n L (.int (a / b) :: st) g Q) : Sim SL d y cc nL ret pc L (.int b :: .int a :: st) g Q := by
  intro p l e R s m args below meth c H locs cells slots Z A dC dI cy ad ls g0 hC hR hW hL
  subst hn
  exact lv_idiv hC.1 hC.2.1 hd hz (k hC hR hW hL)
theorem s_irem {a b : Int32} (hd : decode cc pc = .ok (.irem, 1)) (hn : n = pc + 1) (hz : ¬ b = 0) (k : Sim SL d y cc nL ret n L (.int (a - a / b * b) :: st) g Q) : Sim SL d y cc nL ret pc L (.int b :: .int a :: st) g Q := by
  intro p l e R s m args below meth c H locs cells slots Z A dC dI cy ad ls g0 hC hR hW hL
  subst hn
  exact lv_irem hC.1 hC.2.1 hd hz (k hC hR hW hL)
theorem s_iushr {a b v : Int32} (hd : decode cc pc = .ok (.iushr, 1)) (hn : n = pc + 1) (hv : (a.toUInt32 >>> (b.toUInt32 &&& Int32.toUInt32 31)).toInt32 = v) (k : Sim SL d y cc nL ret n L (.int v :: st) g Q) : Sim SL d y cc nL ret pc L (.int b :: .int a :: st) g Q := by
  intro p l e R s m args below meth c H locs cells slots Z A dC dI cy ad ls g0 hC hR hW hL
  subst hn
  exact lv_iushr hC.1 hC.2.1 hd hv (k hC hR hW hL)
theorem s_ineg {a : Int32} (hd : decode cc pc = .ok (.ineg, 1)) (hn : n = pc + 1) (k : Sim SL d y cc nL ret n L (.int (-a) :: st) g Q) : Sim SL d y cc nL ret pc L (.int a :: st) g Q := by
  intro p l e R s m args below meth c H locs cells slots Z A dC dI cy ad ls g0 hC hR hW hL
  subst hn
  exact lv_ineg hC.1 hC.2.1 hd (k hC hR hW hL)
theorem s_ladd {a b : Int64} (hd : decode cc pc = .ok (.ladd, 1)) (hn : n = pc + 1) (k : Sim SL d y cc nL ret n L (.long (a + b) :: st) g Q) : Sim SL d y cc nL ret pc L (.long b :: .long a :: st) g Q := by
  intro p l e R s m args below meth c H locs cells slots Z A dC dI cy ad ls g0 hC hR hW hL
  subst hn
  exact lv_ladd hC.1 hC.2.1 hd (k hC hR hW hL)
theorem s_lmul {a b : Int64} (hd : decode cc pc = .ok (.lmul, 1)) (hn : n = pc + 1) (k : Sim SL d y cc nL ret n L (.long (a * b) :: st) g Q) : Sim SL d y cc nL ret pc L (.long b :: .long a :: st) g Q := by
  intro p l e R s m args below meth c H locs cells slots Z A dC dI cy ad ls g0 hC hR hW hL
  subst hn
  exact lv_lmul hC.1 hC.2.1 hd (k hC hR hW hL)
theorem s_lrem {a b : Int64} (hd : decode cc pc = .ok (.lrem, 1)) (hn : n = pc + 1) (hz : ¬ b = 0) (k : Sim SL d y cc nL ret n L (.long (a - a / b * b) :: st) g Q) : Sim SL d y cc nL ret pc L (.long b :: .long a :: st) g Q := by
  intro p l e R s m args below meth c H locs cells slots Z A dC dI cy ad ls g0 hC hR hW hL
  subst hn
  exact lv_lrem hC.1 hC.2.1 hd hz (k hC hR hW hL)
theorem s_lcmp {a b : Int64} (hd : decode cc pc = .ok (.lcmp, 1)) (hn : n = pc + 1) (k : Sim SL d y cc nL ret n L (.int (lg_cmp a b) :: st) g Q) : Sim SL d y cc nL ret pc L (.long b :: .long a :: st) g Q := by
  intro p l e R s m args below meth c H locs cells slots Z A dC dI cy ad ls g0 hC hR hW hL
  subst hn
  exact W.lcmp hC.1 hC.2.1 hd (k hC hR hW hL)
theorem s_i2l {a : Int32} (hd : decode cc pc = .ok (.i2l, 1)) (hn : n = pc + 1) (k : Sim SL d y cc nL ret n L (.long a.toInt64 :: st) g Q) : Sim SL d y cc nL ret pc L (.int a :: st) g Q := by
  intro p l e R s m args below meth c H locs cells slots Z A dC dI cy ad ls g0 hC hR hW hL
  subst hn
  exact lv_i2l hC.1 hC.2.1 hd rfl (k hC hR hW hL)
theorem s_l2i {a : Int64} (hd : decode cc pc = .ok (.l2i, 1)) (hn : n = pc + 1) (k : Sim SL d y cc nL ret n L (.int a.toInt32 :: st) g Q) : Sim SL d y cc nL ret pc L (.long a :: st) g Q := by
  intro p l e R s m args below meth c H locs cells slots Z A dC dI cy ad ls g0 hC hR hW hL
  subst hn
  exact lv_l2i hC.1 hC.2.1 hd rfl (k hC hR hW hL)
theorem s_i2b {a : Int32} (hd : decode cc pc = .ok (.i2b, 1)) (hn : n = pc + 1) (k : Sim SL d y cc nL ret n L (.int a.toInt8.toInt32 :: st) g Q) : Sim SL d y cc nL ret pc L (.int a :: st) g Q := by
  intro p l e R s m args below meth c H locs cells slots Z A dC dI cy ad ls g0 hC hR hW hL
  subst hn
  exact lv_i2b hC.1 hC.2.1 hd rfl (k hC hR hW hL)
theorem s_i2s {a : Int32} (hd : decode cc pc = .ok (.i2s, 1)) (hn : n = pc + 1) (k : Sim SL d y cc nL ret n L (.int a.toInt16.toInt32 :: st) g Q) : Sim SL d y cc nL ret pc L (.int a :: st) g Q := by
  intro p l e R s m args below meth c H locs cells slots Z A dC dI cy ad ls g0 hC hR hW hL
  subst hn
  exact lv_i2s hC.1 hC.2.1 hd rfl (k hC hR hW hL)
theorem s_dup {a : Value} (hd : decode cc pc = .ok (.dup, 1)) (hn : n = pc + 1) (hv : a.category = 1) (k : Sim SL d y cc nL ret n L (a :: a :: st) g Q) : Sim SL d y cc nL ret pc L (a :: st) g Q := by
  intro p l e R s m args below meth c H locs cells slots Z A dC dI cy ad ls g0 hC hR hW hL
  subst hn
  exact lv_dup hC.1 hC.2.1 hd ((m_cv_cat ad a).trans hv) (k hC hR hW hL)
theorem s_pop {a : Value} (hd : decode cc pc = .ok (.pop, 1)) (hn : n = pc + 1) (hv : a.category = 1) (k : Sim SL d y cc nL ret n L (st) g Q) : Sim SL d y cc nL ret pc L (a :: st) g Q := by
  intro p l e R s m args below meth c H locs cells slots Z A dC dI cy ad ls g0 hC hR hW hL
  subst hn
  exact lv_pop hC.1 hC.2.1 hd ((m_cv_cat ad a).trans hv) (k hC hR hW hL)
theorem s_dup_x1 {a b : Value} (hd : decode cc pc = .ok (.dup_x1, 1)) (hn : n = pc + 1) (hv : a.category = 1) (hw : b.category = 1) (k : Sim SL d y cc nL ret n L (a :: b :: a :: st) g Q) : Sim SL d y cc nL ret pc L (a :: b :: st) g Q := by
  intro p l e R s m args below meth c H locs cells slots Z A dC dI cy ad ls g0 hC hR hW hL
  subst hn
  exact lv_dup_x1 hC.1 hC.2.1 hd ((m_cv_cat ad a).trans hv) ((m_cv_cat ad b).trans hw) (k hC hR hW hL)
theorem s_dup2 {a b : Value} (hd : decode cc pc = .ok (.dup2, 1)) (hn : n = pc + 1) (hv : a.category = 1) (hw : b.category = 1) (k : Sim SL d y cc nL ret n L (a :: b :: a :: b :: st) g Q) : Sim SL d y cc nL ret pc L (a :: b :: st) g Q := by
  intro p l e R s m args below meth c H locs cells slots Z A dC dI cy ad ls g0 hC hR hW hL
  subst hn
  exact lv_dup2_11 hC.1 hC.2.1 hd ((m_cv_cat ad a).trans hv) ((m_cv_cat ad b).trans hw) (k hC hR hW hL)
theorem s_icmp_eq {a b : Int32} {off : Int} {t : Nat} (hd : decode cc pc = .ok (.if_icmp .eq off, 3)) (ht : (pc : Int) + off = (t : Int)) (hn : n = pc + 3) (k1 : a = b → Sim SL d y cc nL ret t L st g Q) (k2 : ¬ (a = b) → Sim SL d y cc nL ret n L st g Q) : Sim SL d y cc nL ret pc L (.int b :: .int a :: st) g Q := by
  intro p l e R s m args below meth c H locs cells slots Z A dC dI cy ad ls g0 hC hR hW hL
  subst hn
  exact lv_icmp_eq hC.1 hC.2.1 hd ht (fun h => k1 h hC hR hW hL) (fun h => k2 h hC hR hW hL)
theorem s_icmp_ne {a b : Int32} {off : Int} {t : Nat} (hd : decode cc pc = .ok (.if_icmp .ne off, 3)) (ht : (pc : Int) + off = (t : Int)) (hn : n = pc + 3) (k1 : a ≠ b → Sim SL d y cc nL ret t L st g Q) (k2 : a = b → Sim SL d y cc nL ret n L st g Q) : Sim SL d y cc nL ret pc L (.int b :: .int a :: st) g Q := by
  intro p l e R s m args below meth c H locs cells slots Z A dC dI cy ad ls g0 hC hR hW hL
  subst hn
  exact lv_icmp_ne hC.1 hC.2.1 hd ht (fun h => k1 h hC hR hW hL) (fun h => k2 h hC hR hW hL)
theorem s_icmp_lt {a b : Int32} {off : Int} {t : Nat} (hd : decode cc pc = .ok (.if_icmp .lt off, 3)) (ht : (pc : Int) + off = (t : Int)) (hn : n = pc + 3) (k1 : a < b → Sim SL d y cc nL ret t L st g Q) (k2 : ¬ (a < b) → Sim SL d y cc nL ret n L st g Q) : Sim SL d y cc nL ret pc L (.int b :: .int a :: st) g Q := by
  intro p l e R s m args below meth c H locs cells slots Z A dC dI cy ad ls g0 hC hR hW hL
  subst hn
  exact lv_icmp_lt hC.1 hC.2.1 hd ht (fun h => k1 h hC hR hW hL) (fun h => k2 h hC hR hW hL)
theorem s_icmp_ge {a b : Int32} {off : Int} {t : Nat} (hd : decode cc pc = .ok (.if_icmp .ge off, 3)) (ht : (pc : Int) + off = (t : Int)) (hn : n = pc + 3) (k1 : b ≤ a → Sim SL d y cc nL ret t L st g Q) (k2 : ¬ (b ≤ a) → Sim SL d y cc nL ret n L st g Q) : Sim SL d y cc nL ret pc L (.int b :: .int a :: st) g Q := by
  intro p l e R s m args below meth c H locs cells slots Z A dC dI cy ad ls g0 hC hR hW hL
  subst hn
  exact lv_icmp_ge hC.1 hC.2.1 hd ht (fun h => k1 h hC hR hW hL) (fun h => k2 h hC hR hW hL)
theorem s_icmp_gt {a b : Int32} {off : Int} {t : Nat} (hd : decode cc pc = .ok (.if_icmp .gt off, 3)) (ht : (pc : Int) + off = (t : Int)) (hn : n = pc + 3) (k1 : b < a → Sim SL d y cc nL ret t L st g Q) (k2 : ¬ (b < a) → Sim SL d y cc nL ret n L st g Q) : Sim SL d y cc nL ret pc L (.int b :: .int a :: st) g Q := by
  intro p l e R s m args below meth c H locs cells slots Z A dC dI cy ad ls g0 hC hR hW hL
  subst hn
  exact lv_icmp_gt hC.1 hC.2.1 hd ht (fun h => k1 h hC hR hW hL) (fun h => k2 h hC hR hW hL)
theorem s_icmp_le {a b : Int32} {off : Int} {t : Nat} (hd : decode cc pc = .ok (.if_icmp .le off, 3)) (ht : (pc : Int) + off = (t : Int)) (hn : n = pc + 3) (k1 : a ≤ b → Sim SL d y cc nL ret t L st g Q) (k2 : ¬ (a ≤ b) → Sim SL d y cc nL ret n L st g Q) : Sim SL d y cc nL ret pc L (.int b :: .int a :: st) g Q := by
  intro p l e R s m args below meth c H locs cells slots Z A dC dI cy ad ls g0 hC hR hW hL
  subst hn
  exact lv_icmp_le hC.1 hC.2.1 hd ht (fun h => k1 h hC hR hW hL) (fun h => k2 h hC hR hW hL)
theorem s_if_eq {a : Int32} {off : Int} {t : Nat} (hd : decode cc pc = .ok (.ifCond .eq off, 3)) (ht : (pc : Int) + off = (t : Int)) (hn : n = pc + 3) (k1 : a = 0 → Sim SL d y cc nL ret t L st g Q) (k2 : ¬ (a = 0) → Sim SL d y cc nL ret n L st g Q) : Sim SL d y cc nL ret pc L (.int a :: st) g Q := by
  intro p l e R s m args below meth c H locs cells slots Z A dC dI cy ad ls g0 hC hR hW hL
  subst hn
  exact lv_if_eq hC.1 hC.2.1 hd ht (fun h => k1 h hC hR hW hL) (fun h => k2 h hC hR hW hL)
theorem s_if_ne {a : Int32} {off : Int} {t : Nat} (hd : decode cc pc = .ok (.ifCond .ne off, 3)) (ht : (pc : Int) + off = (t : Int)) (hn : n = pc + 3) (k1 : a ≠ 0 → Sim SL d y cc nL ret t L st g Q) (k2 : a = 0 → Sim SL d y cc nL ret n L st g Q) : Sim SL d y cc nL ret pc L (.int a :: st) g Q := by
  intro p l e R s m args below meth c H locs cells slots Z A dC dI cy ad ls g0 hC hR hW hL
  subst hn
  exact lv_if_ne hC.1 hC.2.1 hd ht (fun h => k1 h hC hR hW hL) (fun h => k2 h hC hR hW hL)
theorem s_if_lt {a : Int32} {off : Int} {t : Nat} (hd : decode cc pc = .ok (.ifCond .lt off, 3)) (ht : (pc : Int) + off = (t : Int)) (hn : n = pc + 3) (k1 : a < 0 → Sim SL d y cc nL ret t L st g Q) (k2 : ¬ (a < 0) → Sim SL d y cc nL ret n L st g Q) : Sim SL d y cc nL ret pc L (.int a :: st) g Q := by
  intro p l e R s m args below meth c H locs cells slots Z A dC dI cy ad ls g0 hC hR hW hL
  subst hn
  exact lv_if_lt hC.1 hC.2.1 hd ht (fun h => k1 h hC hR hW hL) (fun h => k2 h hC hR hW hL)
theorem s_if_ge {a : Int32} {off : Int} {t : Nat} (hd : decode cc pc = .ok (.ifCond .ge off, 3)) (ht : (pc : Int) + off = (t : Int)) (hn : n = pc + 3) (k1 : 0 ≤ a → Sim SL d y cc nL ret t L st g Q) (k2 : ¬ (0 ≤ a) → Sim SL d y cc nL ret n L st g Q) : Sim SL d y cc nL ret pc L (.int a :: st) g Q := by
  intro p l e R s m args below meth c H locs cells slots Z A dC dI cy ad ls g0 hC hR hW hL
  subst hn
  exact lv_if_ge hC.1 hC.2.1 hd ht (fun h => k1 h hC hR hW hL) (fun h => k2 h hC hR hW hL)
theorem s_if_gt {a : Int32} {off : Int} {t : Nat} (hd : decode cc pc = .ok (.ifCond .gt off, 3)) (ht : (pc : Int) + off = (t : Int)) (hn : n = pc + 3) (k1 : 0 < a → Sim SL d y cc nL ret t L st g Q) (k2 : ¬ (0 < a) → Sim SL d y cc nL ret n L st g Q) : Sim SL d y cc nL ret pc L (.int a :: st) g Q := by
  intro p l e R s m args below meth c H locs cells slots Z A dC dI cy ad ls g0 hC hR hW hL
  subst hn
  exact lv_if_gt hC.1 hC.2.1 hd ht (fun h => k1 h hC hR hW hL) (fun h => k2 h hC hR hW hL)
theorem s_if_le {a : Int32} {off : Int} {t : Nat} (hd : decode cc pc = .ok (.ifCond .le off, 3)) (ht : (pc : Int) + off = (t : Int)) (hn : n = pc + 3) (k1 : a ≤ 0 → Sim SL d y cc nL ret t L st g Q) (k2 : ¬ (a ≤ 0) → Sim SL d y cc nL ret n L st g Q) : Sim SL d y cc nL ret pc L (.int a :: st) g Q := by
  intro p l e R s m args below meth c H locs cells slots Z A dC dI cy ad ls g0 hC hR hW hL
  subst hn
  exact lv_if_le hC.1 hC.2.1 hd ht (fun h => k1 h hC hR hW hL) (fun h => k2 h hC hR hW hL)
theorem s_goto {off : Int} {t : Nat} (hd : decode cc pc = .ok (.goto off, 3)) (ht : (pc : Int) + off = (t : Int)) (k : Sim SL d y cc nL ret t L st g Q) : Sim SL d y cc nL ret pc L st g Q := by
  intro p l e R s m args below meth c H locs cells slots Z A dC dI cy ad ls g0 hC hR hW hL
  exact lv_goto hC.1 hC.2.1 hd ht (k hC hR hW hL)
theorem s_tsw_in {dflt lo hi off : Int} {offs : Array Int} {len t : Nat} {x : Int32} (hd : decode cc pc = .ok (.tableswitch dflt lo hi offs, len)) (h1 : ¬ x.toInt < lo) (h2 : ¬ hi < x.toInt) (ho : offs[(x.toInt - lo).toNat]? = some off) (ht : (pc : Int) + off = (t : Int)) (k : Sim SL d y cc nL ret t L st g Q) : Sim SL d y cc nL ret pc L (.int x :: st) g Q := by
  intro p l e R s m args below meth c H locs cells slots Z A dC dI cy ad ls g0 hC hR hW hL
  exact lv_tableIn hC.1 hC.2.1 hd h1 h2 ho ht (k hC hR hW hL)
theorem s_tsw_out {dflt lo hi : Int} {offs : Array Int} {len t : Nat} {x : Int32} (hd : decode cc pc = .ok (.tableswitch dflt lo hi offs, len)) (h : x.toInt < lo ∨ hi < x.toInt) (ht : (pc : Int) + dflt = (t : Int)) (k : Sim SL d y cc nL ret t L st g Q) : Sim SL d y cc nL ret pc L (.int x :: st) g Q := by
  intro p l e R s m args below meth c H locs cells slots Z A dC dI cy ad ls g0 hC hR hW hL
  exact lv_tableOut hC.1 hC.2.1 hd h ht (k hC hR hW hL)
theorem s_lsw {dflt : Int} {ps : Array (Int × Int)} {len : Nat} {x : Int32} {off : Int} {t : Nat} (hd : decode cc pc = .ok (.lookupswitch dflt ps, len)) (hp : (ps.toList.zip (ps.toList.drop 1)).all (fun (a, next) => a.1 < next.1) = true) (ho : Op.lookupswitch.offset ps.toList dflt x.toInt = off) (ht : (pc : Int) + off = (t : Int)) (k : Sim SL d y cc nL ret t L st g Q) : Sim SL d y cc nL ret pc L (.int x :: st) g Q := by
  intro p l e R s m args below meth c H locs cells slots Z A dC dI cy ad ls g0 hC hR hW hL
  exact lv_lookup hC.1 hC.2.1 hd hp ho ht (k hC hR hW hL)
theorem s_ireturn {r : Int32} {ty : FieldType} (hd : decode cc pc = .ok (.ireturn, 1)) (hr : ret = some ty) (hv : narrow ty (.int r) = .int r) (k : Q (some r) g) : Sim SL d y cc nL ret pc L [.int r] g Q := by
  intro p l e R s m args below meth c H locs cells slots Z A dC dI cy ad ls g0 hC hR hW hL
  exact (hR g H locs pc ls hW).1 r ⟨ty, hr⟩ k (fun t ht => by rw [hr] at ht; cases ht; exact hv) hd
theorem s_return (hd : decode cc pc = .ok (.return_, 1)) (hr : ret = none) (k : Q none g) : Sim SL d y cc nL ret pc L [] g Q := by
  intro p l e R s m args below meth c H locs cells slots Z A dC dI cy ad ls g0 hC hR hW hL
  exact (hR g H locs pc ls hW).2 hr k hd
theorem s_mono {Q2 : Option Int32 → m_G → Prop} (k : Sim SL d y cc nL ret pc L st g Q2) (hQ : ∀ r g2, Q2 r g2 → Q r g2) : Sim SL d y cc nL ret pc L st g Q := by
  intro p l e R s m args below meth c H locs cells slots Z A dC dI cy ad ls g0 hC hR hW hL
  exact k hC (fun g2 H2 locs2 pc2 ls2 w => ⟨fun r hr hq => ((hR g2 H2 locs2 pc2 ls2 w).1 r hr (hQ _ _ hq)), fun hr hq => (hR g2 H2 locs2 pc2 ls2 w).2 hr (hQ _ _ hq)⟩) hW hL
def m_nl (L : List Value) (i : Nat) : Bool := match i with
  | 0 => true
  | j + 1 => match L[j]? with
    | some (.long _) => false
    | some (.double _) => false
    | _ => true
def m_lv (L : List Value) (ad : Nat → Nat) : List (Nat × Value) := (List.range L.length).filterMap (fun (i : Nat) => match (L[i]? : Option Value) with
  | some Value.null => none
  | some v => some (i, m_cv ad v)
  | none => none)
theorem m_lv_mem {ad : Nat → Nat} {i : Nat} {w : Value} : (i, w) ∈ m_lv L ad ↔ ∃ v, L[i]? = some v ∧ v ≠ .null ∧ w = m_cv ad v := by
  unfold m_lv
  rw [List.mem_filterMap]
  constructor
  · rintro ⟨j, hj, he⟩
    cases hv : L[j]? with
    | none => rw [hv] at he; cases he
    | some v =>
      rw [hv] at he
      cases v <;> first | (cases he; done) | (cases he; exact ⟨_, hv, (fun h => by cases h), rfl⟩)
  · rintro ⟨v, hv, hne, rfl⟩
    refine ⟨i, List.mem_range.mpr (List.getElem?_eq_some_iff.mp hv).1, ?_⟩
    rw [hv]
    cases v <;> first | rfl | exact absurd rfl hne
theorem m_HL.has {ls : Array Slot} {ad : Nat → Nat} (h : m_HL ls nL L ad) : lv_has ls nL (m_lv L ad) := ⟨h.1, h.2.1, fun q hq => by
  obtain ⟨v, h1, h2, h3⟩ := m_lv_mem.mp (show (q.1, q.2) ∈ m_lv L ad from hq)
  rw [h3]; exact h.2.2 _ _ h1 h2⟩
theorem m_nl_cat {i : Nat} {v : Value} (h : m_nl L (i + 1) = true) (hv : L[i]? = some v) : ¬ v.category = 2 := by
  unfold m_nl at h
  simp only [hv] at h
  cases v <;> simp_all [Value.category]
theorem m_HL.st1 {ls : Array Slot} {ad : Nat → Nat} {i : Nat} {x : Value} (hn : m_nl L i = true) (hLS : L.set i x = L2) (h : lv_has ls nL ((i, m_cv ad x) :: (m_lv L ad).filter (fun q => !(q.1 == i) && !(q.1 + 1 == i && q.2.category == 2)))) : m_HL ls nL L2 ad := by
  subst hLS
  refine ⟨h.1, h.2.1, fun j v hv hne => ?_⟩
  by_cases hj : j = i
  · subst hj
    have hlt : j < L.length := by
      have := (List.getElem?_eq_some_iff.mp hv).1
      simpa using this
    rw [List.getElem?_set_self hlt] at hv
    cases hv
    exact h.2.2 (j, m_cv ad x) List.mem_cons_self
  · rw [List.getElem?_set_ne (Ne.symm hj)] at hv
    refine h.2.2 (j, m_cv ad v) (List.mem_cons_of_mem _ (List.mem_filter.mpr ⟨m_lv_mem.mpr ⟨v, hv, hne, rfl⟩, ?_⟩))
    have h1 : (j == i) = false := by simp [hj]
    by_cases h2 : j + 1 = i
    · subst h2
      have := m_nl_cat hn hv
      rw [← m_cv_cat ad] at this
      simp [this]
    · simp [h1, h2]
theorem m_HL.st2 {ls : Array Slot} {ad : Nat → Nat} {i : Nat} {x : Int64} (hn : m_nl L i = true) (hLS : (L.set i (.long x)).set (i + 1) .null = L2) (h : lv_has ls nL ((i, .long x) :: (m_lv L ad).filter (fun q => !(q.1 == i) && (!(q.1 == i + 1) && !(q.1 + 1 == i && q.2.category == 2))))) : m_HL ls nL L2 ad := by
  subst hLS
  refine ⟨h.1, h.2.1, fun j v hv hne => ?_⟩
  by_cases hj1 : j = i + 1
  · subst hj1
    by_cases hlt : i + 1 < (L.set i (.long x)).length
    · rw [List.getElem?_set_self hlt] at hv
      cases hv
      exact absurd rfl hne
    · rw [List.getElem?_eq_none (by simpa using hlt)] at hv
      cases hv
  · rw [List.getElem?_set_ne (Ne.symm hj1)] at hv
    by_cases hj : j = i
    · subst hj
      have hlt : j < L.length := by
        have := (List.getElem?_eq_some_iff.mp hv).1
        simpa using this
      rw [List.getElem?_set_self hlt] at hv
      cases hv
      exact h.2.2 (j, .long x) List.mem_cons_self
    · rw [List.getElem?_set_ne (Ne.symm hj)] at hv
      refine h.2.2 (j, m_cv ad v) (List.mem_cons_of_mem _ (List.mem_filter.mpr ⟨m_lv_mem.mpr ⟨v, hv, hne, rfl⟩, ?_⟩))
      have h1 : (j == i) = false := by simp [hj]
      by_cases h2 : j + 1 = i
      · subst h2
        have := m_nl_cat hn hv
        rw [← m_cv_cat ad] at this
        simp [this]
        omega
      · simp [h1, h2, hj1]
theorem s_istore {i : Nat} {x : Int32} (hd : decode cc pc = .ok (.istore i, 2)) (hn : n = pc + 2) (hi : i < nL) (hk : m_nl L i = true) (hL2 : L.set i (.int x) = L2) (k : Sim SL d y cc nL ret n L2 st g Q) : Sim SL d y cc nL ret pc L (.int x :: st) g Q := by
  intro p l e R s m args below meth c H locs cells slots Z A dC dI cy ad ls g0 hC hR hW hL
  subst hn
  exact lv_istore hC.1 hC.2.1 hd hL.has hi rfl (fun ls2 h2 => k hC hR hW (m_HL.st1 hk hL2 h2))
theorem s_astore {i : Nat} {x : Nat} (hd : decode cc pc = .ok (.astore i, 2)) (hn : n = pc + 2) (hi : i < nL) (hk : m_nl L i = true) (hL2 : L.set i (.ref x) = L2) (k : Sim SL d y cc nL ret n L2 st g Q) : Sim SL d y cc nL ret pc L (.ref x :: st) g Q := by
  intro p l e R s m args below meth c H locs cells slots Z A dC dI cy ad ls g0 hC hR hW hL
  subst hn
  exact lv_astore hC.1 hC.2.1 hd hL.has hi rfl (fun ls2 h2 => k hC hR hW (m_HL.st1 hk hL2 h2))
theorem s_istore_n {q : Fin 4} {i : Nat} {x : Int32} (hd : decode cc pc = .ok (.istore_n q, 1)) (hq : (q : Nat) = i) (hn : n = pc + 1) (hi : i < nL) (hk : m_nl L i = true) (hL2 : L.set i (.int x) = L2) (k : Sim SL d y cc nL ret n L2 st g Q) : Sim SL d y cc nL ret pc L (.int x :: st) g Q := by
  intro p l e R s m args below meth c H locs cells slots Z A dC dI cy ad ls g0 hC hR hW hL
  subst hn
  exact lv_istore_n hC.1 hC.2.1 hd hq hL.has hi rfl (fun ls2 h2 => k hC hR hW (m_HL.st1 hk hL2 h2))
theorem s_astore_n {q : Fin 4} {i : Nat} {x : Nat} (hd : decode cc pc = .ok (.astore_n q, 1)) (hq : (q : Nat) = i) (hn : n = pc + 1) (hi : i < nL) (hk : m_nl L i = true) (hL2 : L.set i (.ref x) = L2) (k : Sim SL d y cc nL ret n L2 st g Q) : Sim SL d y cc nL ret pc L (.ref x :: st) g Q := by
  intro p l e R s m args below meth c H locs cells slots Z A dC dI cy ad ls g0 hC hR hW hL
  subst hn
  exact lv_astore_n hC.1 hC.2.1 hd hq hL.has hi rfl (fun ls2 h2 => k hC hR hW (m_HL.st1 hk hL2 h2))
theorem s_lstore {i : Nat} {x : Int64} (hd : decode cc pc = .ok (.lstore i, 2)) (hn : n = pc + 2) (hi : i + 1 < nL) (hk : m_nl L i = true) (hL2 : (L.set i (.long x)).set (i + 1) .null = L2) (k : Sim SL d y cc nL ret n L2 st g Q) : Sim SL d y cc nL ret pc L (.long x :: st) g Q := by
  intro p l e R s m args below meth c H locs cells slots Z A dC dI cy ad ls g0 hC hR hW hL
  subst hn
  exact lv_lstore hC.1 hC.2.1 hd hL.has hi rfl (fun ls2 h2 => k hC hR hW (m_HL.st2 hk hL2 h2))
theorem s_iinc {i : Nat} {z : Int} {x v : Int32} (hd : decode cc pc = .ok (.iinc i z, 3)) (hn : n = pc + 3) (hi : i < nL) (hk : m_nl L i = true) (hl : L[i]? = some (.int x)) (hv : x + Int32.ofInt z = v) (hL2 : L.set i (.int v) = L2) (k : Sim SL d y cc nL ret n L2 st g Q) : Sim SL d y cc nL ret pc L st g Q := by
  intro p l e R s m args below meth c H locs cells slots Z A dC dI cy ad ls g0 hC hR hW hL
  subst hn
  obtain ⟨q, hq⟩ := List.getElem?_of_mem (m_lv_mem (ad := ad).mpr ⟨_, hl, (fun h => by cases h), rfl⟩)
  exact lv_iinc hC.1 hC.2.1 hd hL.has hq hv hi rfl (fun ls2 h2 => k hC hR hW (m_HL.st1 hk hL2 h2))
end SIMROWS
end
section
theorem m_lays0 : ∀ w ∈ u_ws RX0 TX0 4, w ∈ lw_tbl ∧ goodWord w = true := by decide +kernel
theorem m_lays1 : ∀ w ∈ u_ws RX1 TX1 12, w ∈ lw_tbl ∧ goodWord w = true := by decide +kernel
theorem m_lays2 : ∀ w ∈ u_ws RX2 TX2 5, w ∈ lw_tbl ∧ goodWord w = true := by decide +kernel
theorem m_lays3 : ∀ w ∈ u_ws RX3 TX3 6, w ∈ lw_tbl ∧ goodWord w = true := by decide +kernel
theorem m_lays4 : ∀ w ∈ u_ws RX4 TX4 4, w ∈ lw_tbl ∧ goodWord w = true := by decide +kernel
theorem m_lays5 : ∀ w ∈ u_ws RX5 TX5 2, w ∈ lw_tbl ∧ goodWord w = true := by decide +kernel
theorem m_lays6 : ∀ w ∈ u_ws RX6 TX6 5, w ∈ lw_tbl ∧ goodWord w = true := by decide +kernel
theorem m_lays7 : ∀ w ∈ u_ws RX7 TX7 2, w ∈ lw_tbl ∧ goodWord w = true := by decide +kernel
theorem m_lays8 : ∀ w ∈ u_ws RX8 TX8 10, w ∈ lw_tbl ∧ goodWord w = true := by decide +kernel
theorem m_lays9 : ∀ w ∈ u_ws RX9 TX9 24, w ∈ lw_tbl ∧ goodWord w = true := by decide +kernel
def m_tyo (t : Nat) : Nat → FieldType := match t with
  | 0 => tyX0
  | 1 => tyX1
  | 2 => tyX2
  | 3 => tyX3
  | 4 => tyX4
  | 5 => tyX5
  | 6 => tyX6
  | 7 => tyX7
  | 8 => tyX8
  | _ => tyX9
def m_clsOK (t : Nat) : Prop := m_cl[t]? = some (m_cr t) ∧ (m_cr t).2.2 = m_nf t ∧ (∀ w ∈ u_ws (m_cr t).1 (m_cr t).2.1 (m_cr t).2.2, w ∈ m_gw) ∧ (∀ k, k < (m_cr t).2.2 → parseFieldDescriptor ((m_cr t).2.1 k).2.2.1 = some (m_tyo t k)) ∧ (∀ a, a < (m_cr t).2.2 → ∀ b, b < (m_cr t).2.2 → a ≠ b → ((m_cr t).2.1 a).2.1 ≠ ((m_cr t).2.1 b).2.1)
theorem m_cls {t : Nat} (h : t < 10) : m_clsOK t := by
  match t, h with
  | 0, _ => exact ⟨rfl, rfl, fun w hw => List.mem_filter.mpr (m_lays0 w hw), tyX0_ok, nmX0⟩
  | 1, _ => exact ⟨rfl, rfl, fun w hw => List.mem_filter.mpr (m_lays1 w hw), tyX1_ok, nmX1⟩
  | 2, _ => exact ⟨rfl, rfl, fun w hw => List.mem_filter.mpr (m_lays2 w hw), tyX2_ok, nmX2⟩
  | 3, _ => exact ⟨rfl, rfl, fun w hw => List.mem_filter.mpr (m_lays3 w hw), tyX3_ok, nmX3⟩
  | 4, _ => exact ⟨rfl, rfl, fun w hw => List.mem_filter.mpr (m_lays4 w hw), tyX4_ok, nmX4⟩
  | 5, _ => exact ⟨rfl, rfl, fun w hw => List.mem_filter.mpr (m_lays5 w hw), tyX5_ok, nmX5⟩
  | 6, _ => exact ⟨rfl, rfl, fun w hw => List.mem_filter.mpr (m_lays6 w hw), tyX6_ok, nmX6⟩
  | 7, _ => exact ⟨rfl, rfl, fun w hw => List.mem_filter.mpr (m_lays7 w hw), tyX7_ok, nmX7⟩
  | 8, _ => exact ⟨rfl, rfl, fun w hw => List.mem_filter.mpr (m_lays8 w hw), tyX8_ok, nmX8⟩
  | 9, _ => exact ⟨rfl, rfl, fun w hw => List.mem_filter.mpr (m_lays9 w hw), tyX9_ok, nmX9⟩
  | t + 10, h => exact absurd h (by omega)
/-- a field's link, told by its class and slot -/
def m_FL (own : String) (ix t j : Nat) : Prop := (t < 10 ∧ j < m_nf t) ∧ ((Cond.fieldLink own ix ((m_cr t).2.1 j).1 ((m_cr t).2.1 j).2.1 ((m_cr t).2.1 j).2.2.1 ∈ m_gw) ∨ ∃ host, Cond.fieldLinkNest own ix ((m_cr t).2.1 j).1 ((m_cr t).2.1 j).2.1 ((m_cr t).2.1 j).2.2.1 host ∈ m_nw)
theorem m_len {k t n : Nat} (h : m_sh k = (t, n)) : n < 2 ^ 31 := by
  have key : ∀ q ∈ m_shL, q.2 < 2 ^ 31 := by decide +kernel
  unfold m_sh at h
  rw [List.getD_eq_getElem?_getD] at h
  cases hk : m_shL[k]? with
  | none => rw [hk] at h; have : (0 : Nat) = n := congrArg Prod.snd h; omega
  | some q => rw [hk] at h; have h1 := key q (List.mem_of_getElem? hk); have h2 : q = (t, n) := h; rw [h2] at h1; exact h1
theorem m_ro_len {SL k n : Nat} (hS : SL < 2 ^ 31) (h : (k, n) ∈ m_ro SL) : n < 2 ^ 31 := by
  simp only [m_ro, List.mem_cons, Prod.mk.injEq, List.not_mem_nil, or_false] at h
  omega
theorem m_W.set {s : State} {A : Nat → Prop} {dC : Nat → ClassId} {dI : Nat → Nat → Nat} {cy : Nat → ClassId} {ad : Nat → Nat} {g0 g : m_G} {H H1 : Heap} {locs locs1 : List Loc} {k : Nat} {f : Nat → Int32} {e : va_E} (hW : m_W s A dC dI cy ad g0 g H locs) (hk : k < 93) (he : e = m_ce cy ad (m_ur g k f) k) (hP : va_P (dC, dI) m_cl ((m_ws cy ad g).set k (ad k, e)) H1) (hD : va_D A ((m_ws cy ad g).set k (ad k, e))) (hS : va_S A s.heap H1 locs1) : m_W s A dC dI cy ad g0 (m_ur g k f) H1 locs1 := by
  rw [m_ws_set hk he] at hP hD
  exact ⟨hP, hD, hS, fun q hq => by rw [← hW.2.2.2 q hq]; simp [m_ur, show ¬ q = k by omega]⟩
section SIMMEM
variable {SL d : Nat} {y : MethodName} {cc : ByteArray} {nL : Nat} {ret : Option FieldType} {pc n : Nat} {L L2 st : List Value} {g : m_G} {Q : Option Int32 → m_G → Prop}
theorem m_obj {cy : Nat → ClassId} {ad : Nat → Nat} {k t : Nat} (hs : (m_sh k).1 = t) (ht : t < 10) : k < 93 ∧ (m_ws cy ad g)[k]? = some (ad k, .inr (t, m_fs ad g k)) := by
  have hk : k < 93 := m_lt93 (t := t) (n := (m_sh k).2) (by rw [← hs]) (by omega)
  exact ⟨hk, by rw [m_ws_get hk, m_ce_ob hs ht]⟩
theorem s_get {k t j ix : Nat} {v : Value} (hd : decode cc pc = .ok (.getfield ix, 3)) (hn : n = pc + 3) (hf : m_FL y.cls ix t j) (hs : (m_sh k).1 = t) (hv : (if m_ir t j = true then Value.ref (m_rf k j) else Value.int (g k j)) = v) (kk : Sim SL d y cc nL ret n L (v :: st) g Q) : Sim SL d y cc nL ret pc L (.ref k :: st) g Q := by
  intro p l e R s m args below meth c H locs cells slots Z A dC dI cy ad ls g0 hC hR hW hL
  subst hn
  obtain ⟨⟨ht, hj⟩, hf⟩ := hf
  obtain ⟨hc, hnf, hin, -, -⟩ := m_cls ht
  obtain ⟨hk, he⟩ := m_obj (g := g) (cy := cy) (ad := ad) hs ht
  have hg : (m_fs ad g k)[j]? = some (m_cv ad v) := by
    rw [m_fs_get (by rw [hs]; exact hj), hs, ← hv]
    split <;> rfl
  rcases hf with hf | ⟨host, hf⟩
  · exact va_get hC.1 hC.2.1 hC.2.2.2.2.2.2.1 hin hC.2.2.2.2.2.1 hC.2.2.2.2.2.2.2.2.2.1 hW.1 k he hc j (by rw [hnf]; exact hj) (hC.2.2.2.2.2.2.1 _ hf) (fun _ h => h) hg hd (kk hC hR hW hL)
  · exact va_getN hC.1 hC.2.1 hC.2.2.2.2.2.2.1 hin hC.2.2.2.2.2.1 hC.2.2.2.2.2.2.2.2.2.1 hW.1 k he hc j (by rw [hnf]; exact hj) (va_Nw.use rfl (hC.2.2.2.2.2.2.2.1 _ hf)) (fun _ h => h) hg hd (kk hC hR hW hL)
theorem s_geti {k t j ix : Nat} (hd : decode cc pc = .ok (.getfield ix, 3)) (hn : n = pc + 3) (hf : m_FL y.cls ix t j) (hi : m_ir t j = false) (hs : (m_sh k).1 = t) (kk : Sim SL d y cc nL ret n L (.int (g k j) :: st) g Q) : Sim SL d y cc nL ret pc L (.ref k :: st) g Q :=
  s_get hd hn hf hs (by rw [hi]; rfl) kk
theorem s_getr {k k2 t j ix : Nat} (hd : decode cc pc = .ok (.getfield ix, 3)) (hn : n = pc + 3) (hf : m_FL y.cls ix t j) (hi : m_ir t j = true) (hs : (m_sh k).1 = t) (hr : m_rt t k j = k2) (kk : Sim SL d y cc nL ret n L (.ref k2 :: st) g Q) : Sim SL d y cc nL ret pc L (.ref k :: st) g Q :=
  s_get hd hn hf hs (by rw [hi, if_pos rfl, ← hr]; unfold m_rf; rw [hs]) kk
theorem s_putv {k t j ix : Nat} {v : Int32} {ty : FieldType} (hd : decode cc pc = .ok (.putfield ix, 3)) (hn : n = pc + 3) (hf : m_FL y.cls ix t j) (hi : m_ir t j = false) (hfin : ((m_cr t).2.1 j).2.2.2 = false) (hty : parseFieldDescriptor ((m_cr t).2.1 j).2.2.1 = some ty) (hnw : narrow ty (.int v) = .int v) (hfit : fits ty (.int v) = true) (hs : (m_sh k).1 = t) (kk : Sim SL d y cc nL ret n L st (m_up g k j v) Q) : Sim SL d y cc nL ret pc L (.int v :: .ref k :: st) g Q := by
  intro p l e R s m args below meth c H locs cells slots Z A dC dI cy ad ls g0 hC hR hW hL
  subst hn
  obtain ⟨⟨ht, hj⟩, hf⟩ := hf
  obtain ⟨hc, hnf, hin, hto, hnm⟩ := m_cls ht
  obtain ⟨hk, he⟩ := m_obj (g := g) (cy := cy) (ad := ad) hs ht
  have hset : (Sum.inr (t, (m_fs ad g k).set j (.int v)) : va_E) = m_ce cy ad (m_up g k j v) k := by
    rw [m_ce_ob hs ht, m_fs_set (by rw [hs]; exact hj) (by rw [hs]; exact hi)]
  rcases hf with hf | ⟨host, hf⟩
  · exact va_put hC.1 hC.2.1 hC.2.2.2.2.2.2.1 hin (m_tyo t) hto hnm hC.2.2.2.2.2.1 hC.2.2.2.2.2.2.2.2.2.1 hW.1 hW.2.1 hW.2.2.1 k he hc j (by rw [hnf]; exact hj) (hC.2.2.2.2.2.2.1 _ hf) (fun _ h => h) hfin hty hnw hfit (by rw [m_fs_len, hs]; exact hj) hd (fun H1 locs1 hP hD hS => kk hC hR (hW.set hk hset hP hD hS) hL)
  · exact va_putN hC.1 hC.2.1 hC.2.2.2.2.2.2.1 hin (m_tyo t) hto hnm hC.2.2.2.2.2.1 hC.2.2.2.2.2.2.2.2.2.1 hW.1 hW.2.1 hW.2.2.1 k he hc j (by rw [hnf]; exact hj) (va_Nw.use rfl (hC.2.2.2.2.2.2.2.1 _ hf)) (fun _ h => h) hfin hty hnw hfit (by rw [m_fs_len, hs]; exact hj) hd (fun H1 locs1 hP hD hS => kk hC hR (hW.set hk hset hP hD hS) hL)
/-- an int field's store -/
theorem s_puti {k t j ix : Nat} {v : Int32} (hd : decode cc pc = .ok (.putfield ix, 3)) (hn : n = pc + 3) (hf : m_FL y.cls ix t j) (hi : (m_ir t j || ((m_cr t).2.1 j).2.2.2) = false) (hty : ((m_cr t).2.1 j).2.2.1 = "I") (hs : (m_sh k).1 = t) (kk : Sim SL d y cc nL ret n L st (m_up g k j v) Q) : Sim SL d y cc nL ret pc L (.int v :: .ref k :: st) g Q := by
  rw [Bool.or_eq_false_iff] at hi
  exact s_putv (ty := .int) hd hn hf hi.1 hi.2 (by rw [hty]; decide +kernel) rfl rfl hs kk
theorem s_putz {k t j ix : Nat} {v : Int32} (hd : decode cc pc = .ok (.putfield ix, 3)) (hn : n = pc + 3) (hf : m_FL y.cls ix t j) (hi : (m_ir t j || ((m_cr t).2.1 j).2.2.2) = false) (hty : ((m_cr t).2.1 j).2.2.1 = "Z") (hv : v = 0 ∨ v = 1) (hs : (m_sh k).1 = t) (kk : Sim SL d y cc nL ret n L st (m_up g k j v) Q) : Sim SL d y cc nL ret pc L (.int v :: .ref k :: st) g Q := by
  rw [Bool.or_eq_false_iff] at hi
  refine s_putv (ty := .boolean) hd hn hf hi.1 hi.2 (by rw [hty]; decide +kernel) ?_ ?_ hs kk
  · rcases hv with rfl | rfl <;> decide +kernel
  · rcases hv with rfl | rfl <;> decide +kernel
theorem s_iaload {k z : Nat} {i : Int32} (j : Nat) (hd : decode cc pc = .ok (.iaload, 1)) (hn : n = pc + 1) (hs : m_sh k = (20, z)) (hi : i = nI j) (hj : j < z) (kk : Sim SL d y cc nL ret n L (.int (g k j) :: st) g Q) : Sim SL d y cc nL ret pc L (.int i :: .ref k :: st) g Q := by
  intro p l e R s m args below meth c H locs cells slots Z A dC dI cy ad ls g0 hC hR hW hL
  subst hn
  subst hi
  have hz := m_len hs
  have hk := m_lt93 hs (by omega)
  refine va_iald hC.1 hC.2.1 hC.2.2.2.2.2.2.2.2.2.1 hW.1 k 0 (by rw [m_ws_get hk, m_ce_ar hs]) rfl (vp_in_nI hj hz) hd ?_
  rw [nI_clamp (by omega)]
  exact kk hC hR hW hL
theorem s_baload {k z : Nat} {i : Int32} (j : Nat) (hd : decode cc pc = .ok (.baload, 1)) (hn : n = pc + 1) (hs : m_sh k = (21, z)) (hi : i = nI j) (hj : j < z) (kk : Sim SL d y cc nL ret n L (.int (g k j) :: st) g Q) : Sim SL d y cc nL ret pc L (.int i :: .ref k :: st) g Q := by
  intro p l e R s m args below meth c H locs cells slots Z A dC dI cy ad ls g0 hC hR hW hL
  subst hn
  subst hi
  have hz := m_len hs
  have hk := m_lt93 hs (by omega)
  refine va_zald hC.1 hC.2.1 hC.2.2.2.2.2.2.2.2.2.1 hW.1 k 1 (by rw [m_ws_get hk, m_ce_az hs]) rfl (vp_in_nI hj hz) hd ?_
  rw [nI_clamp (by omega)]
  exact kk hC hR hW hL
theorem s_iastore {k z : Nat} {i v : Int32} (j : Nat) (hd : decode cc pc = .ok (.iastore, 1)) (hn : n = pc + 1) (hs : m_sh k = (20, z)) (hi : i = nI j) (hj : j < z) (kk : Sim SL d y cc nL ret n L st (m_up g k j v) Q) : Sim SL d y cc nL ret pc L (.int v :: .int i :: .ref k :: st) g Q := by
  intro p l e R s m args below meth c H locs cells slots Z A dC dI cy ad ls g0 hC hR hW hL
  subst hn
  subst hi
  have hz := m_len hs
  have hk := m_lt93 hs (by omega)
  refine va_iast hC.1 hC.2.1 hC.2.2.2.2.2.2.2.2.2.1 hW.1 hW.2.1 hW.2.2.1 k 0 (by rw [m_ws_get hk, m_ce_ar hs]) rfl (vp_in_nI hj hz) hd ?_
  intro H1 locs1 hP hD hS
  rw [nI_clamp (by omega)] at hP hD
  refine kk hC hR (hW.set hk ?_ hP hD hS) hL
  rw [m_ce_ar hs]; simp [m_ur]
theorem s_bastore {k z : Nat} {i v : Int32} (j : Nat) (hd : decode cc pc = .ok (.bastore, 1)) (hn : n = pc + 1) (hs : m_sh k = (21, z)) (hi : i = nI j) (hj : j < z) (hv : v = 0 ∨ v = 1) (kk : Sim SL d y cc nL ret n L st (m_up g k j v) Q) : Sim SL d y cc nL ret pc L (.int v :: .int i :: .ref k :: st) g Q := by
  intro p l e R s m args below meth c H locs cells slots Z A dC dI cy ad ls g0 hC hR hW hL
  subst hn
  subst hi
  have hz := m_len hs
  have hk := m_lt93 hs (by omega)
  refine va_zast hC.1 hC.2.1 hC.2.2.2.2.2.2.2.2.2.1 hW.1 hW.2.1 hW.2.2.1 k 1 (by rw [m_ws_get hk, m_ce_az hs]) rfl (vp_in_nI hj hz) hd ?_
  intro H1 locs1 hP hD hS
  rw [nI_clamp (by omega)] at hP hD
  have hvn : vp_nar .boolean v = v := by rcases hv with rfl | rfl <;> decide +kernel
  rw [hvn] at hP hD
  refine kk hC hR (hW.set hk ?_ hP hD hS) hL
  rw [m_ce_az hs]; simp [m_ur]
theorem s_aaload {k k2 t z : Nat} {i : Int32} (j : Nat) (hd : decode cc pc = .ok (.aaload, 1)) (hn : n = pc + 1) (hs : m_sh k = (22 + t, z)) (ht : t < 3) (hi : i = nI j) (hj : j < z) (hr : m_rt (22 + t) k j = k2) (kk : Sim SL d y cc nL ret n L (.ref k2 :: st) g Q) : Sim SL d y cc nL ret pc L (.int i :: .ref k :: st) g Q := by
  intro p l e R s m args below meth c H locs cells slots Z A dC dI cy ad ls g0 hC hR hW hL
  subst hn
  subst hi
  have hz := m_len hs
  have hk := m_lt93 hs (by omega)
  have hty : ∃ C, (m_ty cy)[2 + t]? = some (cy (2 + t), .object C) := by
    match t, ht with
    | 0, _ => exact ⟨_, rfl⟩
    | 1, _ => exact ⟨_, rfl⟩
    | 2, _ => exact ⟨_, rfl⟩
    | t + 3, h => exact absurd h (by omega)
  obtain ⟨C, hty⟩ := hty
  refine va_aldq hC.1 hC.2.1 hC.2.2.2.2.2.2.2.2.2.1 hW.1 k (2 + t) (by rw [m_ws_get hk, m_ce_aq hs]) hty (vp_in_nI hj hz) hd ?_
  rw [nI_clamp (by omega)]
  have e : m_rf k j = k2 := by unfold m_rf; rw [hs]; exact hr
  rw [e]
  exact kk hC hR hW hL
theorem s_alen {k z : Nat} {v : Int32} (hd : decode cc pc = .ok (.arraylength, 1)) (hn : n = pc + 1) (hs : m_sh k = (20, z)) (hv : nI z = v) (kk : Sim SL d y cc nL ret n L (.int v :: st) g Q) : Sim SL d y cc nL ret pc L (.ref k :: st) g Q := by
  intro p l e R s m args below meth c H locs cells slots Z A dC dI cy ad ls g0 hC hR hW hL
  subst hn
  have hk := m_lt93 hs (by omega)
  exact va_alen (x := (z, .inl (g k))) hC.1 hC.2.1 hC.2.2.2.2.2.2.2.2.2.1 hW.1 k 0 (by rw [m_ws_get hk, m_ce_ar hs]) rfl hv hd (kk hC hR hW hL)
theorem s_alenq {k t z : Nat} {v : Int32} (hd : decode cc pc = .ok (.arraylength, 1)) (hn : n = pc + 1) (hs : m_sh k = (22 + t, z)) (ht : t < 3) (hv : nI z = v) (kk : Sim SL d y cc nL ret n L (.int v :: st) g Q) : Sim SL d y cc nL ret pc L (.ref k :: st) g Q := by
  intro p l e R s m args below meth c H locs cells slots Z A dC dI cy ad ls g0 hC hR hW hL
  subst hn
  have hk := m_lt93 hs (by omega)
  have hty : ∃ C, (m_ty cy)[2 + t]? = some (cy (2 + t), C) := by
    match t, ht with
    | 0, _ => exact ⟨_, rfl⟩
    | 1, _ => exact ⟨_, rfl⟩
    | 2, _ => exact ⟨_, rfl⟩
    | t + 3, h => exact absurd h (by omega)
  obtain ⟨C, hty⟩ := hty
  exact va_alen (x := (z, .inr (.inr (.inr (.inr (fun i => some (ad (m_rf k i)))))))) hC.1 hC.2.1 hC.2.2.2.2.2.2.2.2.2.1 hW.1 k (2 + t) (by rw [m_ws_get hk, m_ce_aq hs]) hty hv hd (kk hC hR hW hL)
theorem m_ro_ge {SL : Nat} {q : Nat × Nat} (h : q ∈ m_ro SL) : 200 ≤ q.1 := by
  simp only [m_ro, List.mem_cons, List.not_mem_nil, or_false] at h
  rcases h with rfl | rfl | rfl | rfl | rfl | rfl <;> simp
/-- the script and the static tables: read only -/
theorem s_tload {k z : Nat} {i : Int32} (j : Nat) (hd : decode cc pc = .ok (.iaload, 1)) (hn : n = pc + 1) (hs : (k, z) ∈ m_ro SL) (hz : z < 2 ^ 31) (hi : i = nI j) (hj : j < z) (kk : Sim SL d y cc nL ret n L (.int (g k j) :: st) g Q) : Sim SL d y cc nL ret pc L (.int i :: .ref k :: st) g Q := by
  intro p l e R s m args below meth c H locs cells slots Z A dC dI cy ad ls g0 hC hR hW hL
  subst hn
  subst hi
  have e : g k = g0 k := hW.2.2.2 k (by have := m_ro_ge hs; simp at this; omega)
  refine va_ti hC.1 hC.2.1 (hC.2.2.2.2.2.2.2.2.2.2.2.2.1 _ hs) hW.2.2.1 (vp_in_nI hj hz) rfl hd ?_
  have := kk hC hR hW hL
  rw [e] at this
  rw [nI_clamp (by omega)]
  exact this
theorem s_tlen {k z : Nat} {v : Int32} (hd : decode cc pc = .ok (.arraylength, 1)) (hn : n = pc + 1) (hs : (k, z) ∈ m_ro SL) (hv : nI z = v) (kk : Sim SL d y cc nL ret n L (.int v :: st) g Q) : Sim SL d y cc nL ret pc L (.ref k :: st) g Q := by
  intro p l e R s m args below meth c H locs cells slots Z A dC dI cy ad ls g0 hC hR hW hL
  subst hn
  exact va_tlen hC.1 hC.2.1 (hC.2.2.2.2.2.2.2.2.2.2.2.2.1 _ hs) hW.2.2.1 hv hd (kk hC hR hW hL)
theorem s_getstatic {k ix : Nat} {C nm : String} (hd : decode cc pc = .ok (.getstatic ix, 3)) (hn : n = pc + 3) (hs : (C, nm, k) ∈ m_sta) (hf : (Cond.fieldLink y.cls ix C nm "[I" ∈ m_gw) ∨ ∃ host, Cond.fieldLinkNest y.cls ix C nm "[I" host ∈ m_nw) (kk : Sim SL d y cc nL ret n L (.ref k :: st) g Q) : Sim SL d y cc nL ret pc L st g Q := by
  intro p l e R s m args below meth c H locs cells slots Z A dC dI cy ad ls g0 hC hR hW hL
  subst hn
  have hZ := hC.2.2.2.2.2.2.2.2.2.2.2.1 _ hs
  rcases hf with hf | ⟨host, hf⟩
  · exact va_gets hC.1 hC.2.1 hZ hW.2.2.1 hC.2.2.2.2.2.1 (hC.2.2.2.2.2.2.1 _ hf) (fun _ h => h) hd (kk hC hR hW hL)
  · exact va_getsN hC.1 hC.2.1 hZ hW.2.2.1 hC.2.2.2.2.2.1 (va_Nw.use rfl (hC.2.2.2.2.2.2.2.1 _ hf)) (fun _ h => h) hd (kk hC hR hW hL)
/-- System.arraycopy over int arrays -/
theorem s_copy {k0 k1 z0 z1 ix : Nat} {sp dp num : Int32} (a b c : Nat) (hd : decode cc pc = .ok (.invokestatic ix, 3)) (hn : n = pc + 3) (hlk : Cond.methodLink y.cls ix arraycopyName ∈ m_gw) (hw : (Cond.native arraycopyName ∈ m_gw ∧ Cond.static arraycopyName ∈ m_gw) ∧ Cond.initialized "java/lang/System" ∈ m_gw) (hdp : 1 ≤ d) (hs0 : m_sh k0 = (20, z0)) (hs1 : m_sh k1 = (20, z1)) (hsp : sp = nI a) (hdp2 : dp = nI b) (hnum : num = nI c) (h0 : a + c ≤ z0) (h1 : b + c ≤ z1) (hst : (st.map fun v => v.category).sum ≤ 8) (kk : Sim SL d y cc nL ret n L st (m_ur g k1 (va_cpy (g k0) (g k1) a b c)) Q) : Sim SL d y cc nL ret pc L (.int num :: .int dp :: .ref k1 :: .int sp :: .ref k0 :: st) g Q := by
  intro p l e R s m args below meth c H locs cells slots Z A dC dI cy ad ls g0 hC hR hW hL
  subst hn; subst hsp; subst hdp2; subst hnum
  have hz0 := m_len hs0
  have hz1 := m_len hs1
  have hk0 := m_lt93 hs0 (by omega)
  have hk1 := m_lt93 hs1 (by omega)
  have hcat : ((st.map (m_cv ad)).map fun v => v.category).sum ≤ 8 := by
    rw [List.map_map, show ((fun v => Value.category v) ∘ m_cv ad) = (fun v => Value.category v) from funext (fun v => m_cv_cat ad v)]; exact hst
  refine va_copyi hC.1 hC.2.1 (by rw [hC.2.2.1]; exact hL.1.symm) hC.2.2.2.2.2.1 (hC.2.2.2.2.2.2.1 _ hlk) (hC.2.2.2.2.2.2.1 _ hw.1.1) (hC.2.2.2.2.2.2.1 _ hw.1.2) (hC.2.2.2.2.2.2.1 _ hw.2) hC.2.2.2.2.2.2.2.2.2.1 hW.1 hW.2.1 hW.2.2.1 k0 k1 0 0 (by rw [m_ws_get hk0, m_ce_ar hs0]) (by rw [m_ws_get hk1, m_ce_ar hs1]) rfl rfl rfl (nI_pos (by omega)) (nI_pos (by omega)) (nI_pos (by omega)) (by rw [nI_clamp (by omega), nI_clamp (by omega)]; exact h0) (by rw [nI_clamp (by omega), nI_clamp (by omega)]; exact h1) (fun i _ => rfl) (Nat.le_trans hdp hC.2.2.2.2.2.2.2.2.2.2.1.1) ?_ hd ?_
  · have h60 := hC.2.2.2.2.2.2.2.2.2.2.1.2
    have : nativeFrameWords "java/lang/System" "arraycopy" 5 ≤ 20 := by decide +kernel
    omega
  · intro H1 locs1 hP hD hS
    rw [nI_clamp (by omega), nI_clamp (by omega), nI_clamp (by omega)] at hP hD
    refine kk hC hR (hW.set hk1 ?_ hP hD hS) hL
    rw [m_ce_ar hs1]; simp [m_ur]
end SIMMEM
end
section
/-! ===== calls: a method's Sim at its entry is its contract ===== -/
def m_ent (As : List Value) : List Value := As.flatMap (fun v => if v.category = 2 then [v, .null] else [v])
def m_Pc (SL : Nat) (dC : Nat → ClassId) (dI : Nat → Nat → Nat) (cy : Nat → ClassId) (ad : Nat → Nat) (g : m_G) (sz : Nat) (As : List Value) : Array Value → State → Prop :=
  va_Pc (As.map (m_cv ad)) (fun U => U.heap.size = sz ∧ va_P (dC, dI) m_cl (m_ws cy ad g) U.heap ∧ va_K (dC, dI) m_cl (m_ty cy) U ∧ va_D (fun _ => True) (m_ws cy ad g) ∧ (∀ w ∈ m_nw, va_Nw w U) ∧ (∀ q ∈ m_sta, va_Z q.1 q.2.1 "[I" (.ref (ad q.2.2)) (va_A (m_ws cy ad g) sz) U U.heap) ∧ (∀ q ∈ m_ro SL, va_T .int (ad q.1) q.2 (fun j => .int (g q.1 j)) (va_A (m_ws cy ad g) sz) U U.heap))
def m_Qc (dC : Nat → ClassId) (dI : Nat → Nat → Nat) (cy : Nat → ClassId) (ad : Nat → Nat) (g : m_G) (A : Nat → Prop) (Q : Option Int32 → m_G → Prop) : Array Value → State → Outcome → State → Prop := fun _ st oc t =>
  (∃ (r : Option Int32) (g' : m_G), oc = .returned (r.map Value.int) ∧ Q r g' ∧ va_P (dC, dI) m_cl (m_ws cy ad g') t.heap ∧ va_D A (m_ws cy ad g') ∧ ∀ k, 93 ≤ k → g' k = g k) ∧ va_F A st t
theorem m_Nw_warm {w : Cond} (hw : w ∈ m_nw) {s U : State} (hW : s.WarmedH U.vm) (h : va_Nw w s) : va_Nw w U := by
  have hi := (List.mem_filter.mp hw).2
  cases w with
  | fieldLinkNest a i b n d h9 => exact va_Nw.warmF hW h
  | methodLinkNest a i x h9 => exact va_Nw.warmM hW h
  | _ => cases hi
theorem m_Nw_onT {w : Cond} (hw : w ∈ m_nw) : w.onTables = true := by
  have hi := (List.mem_filter.mp hw).2
  cases w with
  | fieldLinkNest a i b n d h9 => rfl
  | methodLinkNest a i x h9 => rfl
  | _ => cases hi
theorem m_Pc_blind {SL : Nat} {dC : Nat → ClassId} {dI : Nat → Nat → Nat} {cy : Nat → ClassId} {ad : Nat → Nat} {g : m_G} {sz : Nat} {As : List Value} : FrameBlind (m_Pc SL dC dI cy ad g sz As) := by
  intro a U f mk h
  obtain ⟨h0, h1, h2, h3, h4, h5, h6, h7⟩ := h
  exact ⟨h0, h1, h2, va_K.moved (u := U) (U := U.calling f mk a) (Vm.Alike.refl U.vm) h3, h4, fun w hw => va_Nw.same (m_Nw_onT hw) (u := U) (U := U.calling f mk a) rfl (h5 w hw), fun q hq => va_Z.moved (u := U) (U := U.calling f mk a) (Vm.Alike.refl U.vm) (h6 q hq), fun q hq => va_T.moved (u := U) (U := U.calling f mk a) (Vm.Alike.refl U.vm) (h7 q hq)⟩
/-- the room of d frames below -/
abbrev m_rm (d : Nat) : Room := { frames := d, cells := 0, slots := 0, locals := 60 * d }
theorem m_ent_HL {ad : Nat → Nat} {As L : List Value} {nL : Nat} (hL : m_ent As ++ List.replicate (nL - (m_ent As).length) .null = L) (hn : (m_ent As).length ≤ nL) : ∃ h : (lg_sl (As.map (m_cv ad))).length ≤ nL, m_HL ((lg_sl (As.map (m_cv ad)) ++ List.replicate (nL - (lg_sl (As.map (m_cv ad))).length) Slot.unset).toArray) nL L ad := by
  have hlen : ∀ As : List Value, (lg_sl (As.map (m_cv ad))).length = (m_ent As).length := by
    intro As
    induction As with
    | nil => rfl
    | cons v t ih =>
      simp only [List.map_cons, lg_sl, m_ent, List.flatMap_cons, List.length_append] at ih ⊢
      rw [ih, m_cv_cat]
      split <;> rfl
  refine ⟨by rw [hlen]; exact hn, ?_⟩
  have h := lv_entry (As.map (m_cv ad)) (n := nL) (by rw [hlen]; exact hn)
  refine ⟨h.1, h.2.1, ?_⟩
  have key : ∀ (As : List Value) (b i : Nat) (v : Value), (m_ent As)[i]? = some v → v ≠ .null → (b + i, m_cv ad v) ∈ lv_args b (As.map (m_cv ad)) := by
    intro As
    induction As with
    | nil => intro b i v h; simp [m_ent] at h
    | cons w t ih =>
      intro b i v hv hne
      simp only [m_ent, List.flatMap_cons] at hv
      simp only [List.map_cons, lv_args, m_cv_cat]
      by_cases hc : w.category = 2
      · rw [if_pos hc] at hv ⊢
        match i, hv with
        | 0, hv =>
          simp at hv
          subst hv
          exact List.mem_cons_self
        | 1, hv =>
          simp at hv
          exact absurd hv.symm hne
        | i + 2, hv =>
          simp at hv
          have := ih (b + 2) i v hv hne
          rw [show b + (i + 2) = b + 2 + i by omega]
          exact List.mem_cons_of_mem _ this
      · rw [if_neg hc] at hv ⊢
        match i, hv with
        | 0, hv =>
          simp at hv
          subst hv
          exact List.mem_cons_self
        | i + 1, hv =>
          simp at hv
          have := ih (b + 1) i v hv hne
          rw [show b + (i + 1) = b + 1 + i by omega]
          exact List.mem_cons_of_mem _ this
  intro i v hv hne
  subst hL
  by_cases hi : i < (m_ent As).length
  · rw [List.getElem?_append_left hi] at hv
    have := key As 0 i v hv hne
    rw [Nat.zero_add] at this
    exact h.2.2 _ this
  · rw [List.getElem?_append_right (by omega)] at hv
    have := List.mem_of_getElem? hv
    exact absurd (List.eq_of_mem_replicate this) hne
theorem m_gw_good : ∀ w ∈ m_gw, (w.onTables && w.keeps) = true ∨ ∃ ty, w = .arrayClass ty := fun w hw => good_of_word (List.mem_filter.mp hw).2
/-- what a method's tables must say -/
def m_MO (y : MethodName) (cc : ByteArray) (nL : Nat) (ret : Option FieldType) (np : Nat) (stat : Bool) : Prop :=
  plainName y.cls = true ∧ Cond.code y cc nL ret ∈ m_gw ∧ Cond.initialized y.cls ∈ m_gw ∧ (y.cls ≠ "java/lang/invoke/MethodHandle" ∧ y.cls ≠ "java/lang/invoke/VarHandle" ∧ (parseMethodDescriptor y.desc).map (fun d => d.parameters.length) = some np) ∧ (if stat = true then Cond.static y ∈ m_gw else Cond.instanceMethod y ∈ m_gw ∧ Cond.selects y.cls y y ∈ m_gw) ∧ nL ≤ 30
def m_ML (own : String) (ix : Nat) (y : MethodName) : Prop := Cond.methodLink own ix y ∈ m_gw ∨ ∃ host, Cond.methodLinkNest own ix y host ∈ m_nw
theorem m_met {SL d : Nat} {y : MethodName} {cc : ByteArray} {nL np : Nat} {ret : Option FieldType} {stat : Bool} {As L : List Value} {g : m_G} {Q : Option Int32 → m_G → Prop} (hM : m_MO y cc nL ret np stat) (hL : m_ent As ++ List.replicate (nL - (m_ent As).length) .null = L) (hn : (m_ent As).length ≤ nL) (hS : Sim SL d y cc nL ret 0 L [] g Q) (l : Launch) (dC : Nat → ClassId) (dI : Nat → Nat → Nat) (cy : Nat → ClassId) (ad : Nat → Nat) (sz : Nat) :
    Met l y (.code y cc nL ret :: m_gw) (m_rm d) (m_Pc SL dC dI cy ad g sz As) (m_Qc dC dI cy ad g (va_A (m_ws cy ad g) sz) Q) 0 0 (va_A (m_ws cy ad g) sz) := by
  refine Met.ofW (cc := cc) (maxL := nL) (ret := ret) hM.1 rfl ?_
  intro p e s m args below meth c s₁ B hml hv
  obtain ⟨rfl, hsz, hP, hK, hD0, hN, hZ, hT⟩ := hv
  have hts := atoms_spec (ws := Cond.code y cc nL ret :: m_gw) B.pre
  have hown : s.vm.findClass y.cls = some m.cls := findClass_of_methodNamed B.named
  subst hsz
  obtain ⟨h1, h2⟩ := m_ent_HL (ad := ad) hL hn
  rw [lg_entry_eq]
  refine hS (Z := MQ below (m_Qc dC dI cy ad g (va_A (m_ws cy ad g) s.heap.size) Q) _ s 0 0 (va_A (m_ws cy ad g) s.heap.size)) (A := va_A (m_ws cy ad g) s.heap.size) (dC := dC) (dI := dI) (cy := cy) (ad := ad) (g0 := g) ⟨B.exec, B.bytes, hml, B.returns, B.notSynchronized, hown, fun w hw => hts w (List.mem_cons_of_mem _ hw), hN, fun q h => Or.inr h, hK, ⟨Nat.le_refl _, Nat.le_refl _⟩, hZ, hT, Nat.le_refl _, Nat.le_refl _⟩ ?_ ⟨hP, hD0.self, va_S.rf, fun _ _ => rfl⟩ h2
  intro g' H' locs' pc' ls' hW
  refine ⟨fun r hr hq hnar hd => ?_, fun hr hq hd => ?_⟩
  · obtain ⟨ty, hty⟩ := hr
    exact W.zret (ty := ty) B.exec B.bytes (B.returns.trans hty) (hnar ty hty) (fun t ht hWd => ⟨⟨some r, g', rfl, hq, by rw [ht]; exact hW.1, hW.2.1, hW.2.2.2⟩, hW.2.2.1.F ht⟩) hW.2.2.1.2.2 hd B.notSynchronized
  · exact W.vret B.exec B.bytes (B.returns.trans hr) (fun t ht hWd => ⟨⟨none, g', rfl, hq, by rw [ht]; exact hW.1, hW.2.1, hW.2.2.2⟩, hW.2.2.1.F ht⟩) hW.2.2.1.2.2 hd B.notSynchronized
section SIMCALL
variable {SL d : Nat} {y : MethodName} {cc : ByteArray} {nL : Nat} {ret : Option FieldType} {pc n : Nat} {L L2 st : List Value} {g : m_G} {Q : Option Int32 → m_G → Prop}
/-- behind a call -/
theorem m_after {p : Program} {l : Launch} {e : Env} {R : Room} {s : State} {m : MethodId} {args : Array Value} {below : List Frame} {meth : Method} {c : Code} {H : Heap} {locs : List Loc} {cells slots : Nat} {Z : State → Prop} {A : Nat → Prop} {dC : Nat → ClassId} {dI : Nat → Nat → Nat} {cy : Nat → ClassId} {ad : Nat → Nat} {ls : Array Slot} {g0 : m_G} {st0 rest : List Value} {a : Array Value} {Q2 : Option Int32 → m_G → Prop} (hA : ∀ q, s.heap.size ≤ q → A q) (hW : m_W s A dC dI cy ad g0 g H locs) (hr : va_Run p l e R s m args below meth c H locs cells slots 0 0 (F0 m pc ls st0) rest (m_Qc dC dI cy ad g (va_A (m_ws cy ad g) H.size) Q2 a) (va_A (m_ws cy ad g) H.size))
    (kk : ∀ (r : Option Int32) (g' : m_G) (H1 : Heap) (locs1 : List Loc), Q2 r g' → m_W s A dC dI cy ad g0 g' H1 locs1 → W p l e R s m args below meth c H1 locs1 cells slots Z (F0 m (pc + 3) ls ((r.map Value.int).toList ++ rest))) : W p l e R s m args below meth c H locs cells slots Z (F0 m pc ls st0) := by
  intro T hT X
  obtain ⟨v, st₀, t, T', L, h0, X', hL, e1, e2, ⟨⟨r, g', hv, hq, hP1, hD1, hro⟩, hz, hk⟩, st⟩ := hr T hT X
  cases hv
  have hF : ∀ q, va_A (m_ws cy ad g) H.size q → A q := by
    intro q h
    rcases h with ⟨k, e, h⟩ | h
    · exact hW.2.1.2 k (q, e) h
    · exact hA q (Nat.le_trans hW.2.2.1.1 h)
  rw [h0] at hz hk
  have hS := hW.2.2.1
  obtain ⟨t2, a1, b1⟩ := kk r g' T'.heap (locs ++ L) hq ⟨by rw [e1]; exact hP1, hD1.weaken (fun _ q _ h => hF q.1 h), ⟨Nat.le_trans hS.1 (by rw [e1]; exact hz), fun q h1 h2 => by rw [e1, hk q (Nat.lt_of_lt_of_le h1 hS.1) (fun z => h2 (hF q z))]; exact hS.2.1 q h1 h2, fun q hq => by
      rcases List.mem_append.mp hq with h | h
      · exact hS.2.2 q h
      · exact hF _ (hL q h)⟩, fun k h => (hro k h).trans (hW.2.2.2 k h)⟩ T' rfl X'
  exact ⟨t2, st t2 a1, b1⟩
theorem m_pre {p : Program} {R : Room} {s : State} {m : MethodId} {args : Array Value} {meth : Method} {c : Code} {H : Heap} {locs : List Loc} {cells slots : Nat} {A : Nat → Prop} {dC : Nat → ClassId} {dI : Nat → Nat → Nat} {cy : Nat → ClassId} {ad : Nat → Nat} {g0 : m_G} {As : List Value} (hC : m_C SL d p R s m args meth c cells slots y cc nL ret A dC dI cy ad g0) (hW : m_W s A dC dI cy ad g0 g H locs) : ∀ U : State, U.heap = H → s.WarmedH U.vm → m_Pc SL dC dI cy ad g H.size As (As.map (m_cv ad)).toArray U := by
  intro U hU hWm
  have hF : ∀ q, va_A (m_ws cy ad g) H.size q → A q := by
    intro q h
    rcases h with ⟨k, e, h⟩ | h
    · exact hW.2.1.2 k (q, e) h
    · exact hC.2.2.2.2.2.2.2.2.1 q (Nat.le_trans hW.2.2.1.1 h)
  have hk : ∀ a : Nat, a < s.heap.size → ¬ A a → H[a]? = s.heap[a]? := hW.2.2.1.2.1
  refine ⟨rfl, by rw [hU], by rw [hU]; exact hW.1, va_K.moved hWm.alike hC.2.2.2.2.2.2.2.2.2.1, hW.2.1.weaken (fun _ _ _ _ => trivial), fun w hw => m_Nw_warm hw hWm (hC.2.2.2.2.2.2.2.1 w hw), fun q hq => ?_, fun q hq => ?_⟩
  · rw [hU]
    exact va_Z.moved hWm.alike ((va_Z.kept (hC.2.2.2.2.2.2.2.2.2.2.2.1 q hq) hk).narrow hF)
  · rw [hU]
    have e : g q.1 = g0 q.1 := hW.2.2.2 q.1 (by have := m_ro_ge hq; omega)
    rw [e]
    exact va_T.moved hWm.alike ((va_T.kept (hC.2.2.2.2.2.2.2.2.2.2.2.2.1 q hq) hk).narrow hF)
theorem m_catsum {ad : Nat → Nat} (h : (st.map fun v => v.category).sum ≤ 8) : ((st.map (m_cv ad)).map fun v => v.category).sum ≤ 8 := by
  rw [List.map_map, show ((fun v => Value.category v) ∘ m_cv ad) = (fun v => Value.category v) from funext (fun v => m_cv_cat ad v)]; exact h
theorem m_good {cc2 : ByteArray} {y2 : MethodName} {nL2 : Nat} {ret2 : Option FieldType} (h : Cond.code y2 cc2 nL2 ret2 ∈ m_gw) : GoodIn m_gw (Cond.code y2 cc2 nL2 ret2 :: m_gw) := fun w hw => by
  rcases List.mem_cons.mp hw with rfl | hw
  · exact ⟨h, m_gw_good _ h⟩
  · exact ⟨hw, m_gw_good _ hw⟩
/-- a call of an instance method (void or int) on the object k -/
theorem s_invv {ix k t np : Nat} {y2 : MethodName} {cc2 : ByteArray} {nL2 : Nat} {ret2 : Option FieldType} {As sa L0 : List Value} {Q2 : Option Int32 → m_G → Prop} (hd : decode cc pc = .ok (.invokevirtual ix, 3)) (hn : n = pc + 3) (hM : m_MO y2 cc2 nL2 ret2 np false) (hl : m_ML y.cls ix y2) (ho : (m_sh k).1 = t) (ht : t < 10) (hy : (m_cr t).1 = y2.cls) (hsa : sa = As.reverse ++ .ref k :: st) (hnp : As.length = np) (hL0 : m_ent (.ref k :: As) ++ List.replicate (nL2 - (m_ent (.ref k :: As)).length) .null = L0) (hle : (m_ent (.ref k :: As)).length ≤ nL2) (hst : (st.map fun v => v.category).sum ≤ 8) (hS : Sim SL d y2 cc2 nL2 ret2 0 L0 [] g Q2) (kk : ∀ r g', Q2 r g' → Sim SL (d + 1) y cc nL ret n L ((r.map Value.int).toList ++ st) g' Q) : Sim SL (d + 1) y cc nL ret pc L sa g Q := by
  intro p l e R s m args below meth c H locs cells slots Z A dC dI cy ad ls g0 hC hR hW hL
  subst hn; subst hsa
  have hmet := m_met hM hL0 hle hS l dC dI cy ad H.size
  obtain ⟨hpl, hcd, hini, hdd, hsel, hnl⟩ := hM
  rw [if_neg (by decide)] at hsel
  have hgood := m_good hcd
  obtain ⟨hkk, he⟩ := m_obj (g := g) (cy := cy) (ad := ad) ho ht
  have hrecv := va_recv hC.2.2.2.2.2.2.2.2.2.1 hW.1 (m_cls ht).1 he
  rw [hy] at hrecv
  have hroom : (m_rm d).frames + 1 ≤ R.frames ∧ 8 + (nL2 + 11) + (m_rm d).locals ≤ R.locals := by
    have := hC.2.2.2.2.2.2.2.2.2.2.1
    refine ⟨this.1, ?_⟩
    show 8 + (nL2 + 11) + 60 * d ≤ R.locals
    omega
  have hts := hC.2.2.2.2.2.2.1
  have hpre : PreV s H y2.cls (ad k) (m_Pc SL dC dI cy ad g H.size (.ref k :: As)) (As.map (m_cv ad)) := ⟨m_Pc_blind, hrecv, m_pre hC hW⟩
  have hstk : (((As.reverse ++ .ref k :: st).map (m_cv ad)) : List Value) = (As.map (m_cv ad)).reverse ++ .ref (ad k) :: st.map (m_cv ad) := by simp [m_cv]
  have hnn : (As.map (m_cv ad)).length = np := by rw [List.length_map]; exact hnp
  have hrun : va_Run p l e R s m args below meth c H locs cells slots 0 0 (F0 m pc ls ((As.reverse ++ .ref k :: st).map (m_cv ad))) (st.map (m_cv ad)) (m_Qc dC dI cy ad g (va_A (m_ws cy ad g) H.size) Q2 (Value.ref (ad k) :: As.map (m_cv ad)).toArray) (va_A (m_ws cy ad g) H.size) := by
    rcases hl with hl | ⟨host, hl⟩
    · have cw : CallW R s args y.cls y2.cls ix y2 cc2 nL2 ret2 (Cond.code y2 cc2 nL2 ret2 :: m_gw) (m_rm d) 0 0 np := ⟨callB_of np hts hgood rfl rfl rfl (hts _ hini) (hts _ hl) hdd hroom, hts _ hsel.1, hts _ hsel.2⟩
      exact va_runV (As := As.map (m_cv ad)) (rest := st.map (m_cv ad)) ⟨hC.1, hC.2.1, hC.2.2.1, hC.2.2.2.2.2.1, hts⟩ hmet cw hpre rfl hnn hL.1 hstk (lv_room (m_catsum hst)) hd ⟨hC.2.2.2.2.2.2.2.2.2.2.2.2.2.1, hC.2.2.2.2.2.2.2.2.2.2.2.2.2.2⟩
    · have cw : va_CN R s args y.cls ix y2 host cc2 nL2 ret2 (Cond.code y2 cc2 nL2 ret2 :: m_gw) (m_rm d) 0 0 np := va_cnB np hts hgood rfl rfl rfl (hC.2.2.2.2.2.2.2.1 _ hl) (hts _ hini) hdd hroom
      exact va_runVN (As := As.map (m_cv ad)) (rest := st.map (m_cv ad)) ⟨hC.1, hC.2.1, hC.2.2.1, hC.2.2.2.2.2.1, hts⟩ hmet ⟨cw, hts _ hsel.1, hts _ hsel.2⟩ hpre rfl hnn hL.1 hstk (lv_room (m_catsum hst)) hd ⟨hC.2.2.2.2.2.2.2.2.2.2.2.2.2.1, hC.2.2.2.2.2.2.2.2.2.2.2.2.2.2⟩
  refine m_after hC.2.2.2.2.2.2.2.2.1 hW hrun (fun r g' H1 locs1 hq hW1 => ?_)
  have := kk r g' hq hC hR hW1 hL
  cases r with
  | none => exact this
  | some v => exact this
theorem s_invs {ix np : Nat} {y2 : MethodName} {cc2 : ByteArray} {nL2 : Nat} {ret2 : Option FieldType} {As sa L0 : List Value} {Q2 : Option Int32 → m_G → Prop} (hd : decode cc pc = .ok (.invokestatic ix, 3)) (hn : n = pc + 3) (hM : m_MO y2 cc2 nL2 ret2 np true) (hl : m_ML y.cls ix y2) (hsa : sa = As.reverse ++ st) (hnp : As.length = np) (hL0 : m_ent As ++ List.replicate (nL2 - (m_ent As).length) .null = L0) (hle : (m_ent As).length ≤ nL2) (hst : (st.map fun v => v.category).sum ≤ 8) (hS : Sim SL d y2 cc2 nL2 ret2 0 L0 [] g Q2) (kk : ∀ r g', Q2 r g' → Sim SL (d + 1) y cc nL ret n L ((r.map Value.int).toList ++ st) g' Q) : Sim SL (d + 1) y cc nL ret pc L sa g Q := by
  intro p l e R s m args below meth c H locs cells slots Z A dC dI cy ad ls g0 hC hR hW hL
  subst hn; subst hsa
  have hmet := m_met hM hL0 hle hS l dC dI cy ad H.size
  obtain ⟨hpl, hcd, hini, hdd, hsel, hnl⟩ := hM
  rw [if_pos rfl] at hsel
  have hgood := m_good hcd
  have hroom : (m_rm d).frames + 1 ≤ R.frames ∧ 8 + (nL2 + 11) + (m_rm d).locals ≤ R.locals := by
    have := hC.2.2.2.2.2.2.2.2.2.2.1
    refine ⟨this.1, ?_⟩
    show 8 + (nL2 + 11) + 60 * d ≤ R.locals
    omega
  have hts := hC.2.2.2.2.2.2.1
  have hpre : PreS s H (m_Pc SL dC dI cy ad g H.size As) (As.map (m_cv ad)) := ⟨m_Pc_blind, m_pre hC hW⟩
  have hstk : (((As.reverse ++ st).map (m_cv ad)) : List Value) = (As.map (m_cv ad)).reverse ++ st.map (m_cv ad) := by simp
  have hnn : (As.map (m_cv ad)).length = np := by rw [List.length_map]; exact hnp
  have hrun : va_Run p l e R s m args below meth c H locs cells slots 0 0 (F0 m pc ls ((As.reverse ++ st).map (m_cv ad))) (st.map (m_cv ad)) (m_Qc dC dI cy ad g (va_A (m_ws cy ad g) H.size) Q2 (As.map (m_cv ad)).toArray) (va_A (m_ws cy ad g) H.size) := by
    rcases hl with hl | ⟨host, hl⟩
    · have cw : CallB R s args y.cls ix y2 cc2 nL2 ret2 (Cond.code y2 cc2 nL2 ret2 :: m_gw) (m_rm d) 0 0 np := callB_of np hts hgood rfl rfl rfl (hts _ hini) (hts _ hl) hdd hroom
      exact va_runS (As := As.map (m_cv ad)) (rest := st.map (m_cv ad)) ⟨hC.1, hC.2.1, hC.2.2.1, hC.2.2.2.2.2.1, hts⟩ hmet ⟨cw, hts _ hsel⟩ hpre rfl hnn hL.1 hstk (lv_room (m_catsum hst)) hd ⟨hC.2.2.2.2.2.2.2.2.2.2.2.2.2.1, hC.2.2.2.2.2.2.2.2.2.2.2.2.2.2⟩
    · have cw : va_CN R s args y.cls ix y2 host cc2 nL2 ret2 (Cond.code y2 cc2 nL2 ret2 :: m_gw) (m_rm d) 0 0 np := va_cnB np hts hgood rfl rfl rfl (hC.2.2.2.2.2.2.2.1 _ hl) (hts _ hini) hdd hroom
      exact va_runSN (As := As.map (m_cv ad)) (rest := st.map (m_cv ad)) ⟨hC.1, hC.2.1, hC.2.2.1, hC.2.2.2.2.2.1, hts⟩ hmet ⟨cw, hts _ hsel, trivial⟩ hpre rfl hnn hL.1 hstk (lv_room (m_catsum hst)) hd ⟨hC.2.2.2.2.2.2.2.2.2.2.2.2.2.1, hC.2.2.2.2.2.2.2.2.2.2.2.2.2.2⟩
  refine m_after hC.2.2.2.2.2.2.2.2.1 hW hrun (fun r g' H1 locs1 hq hW1 => ?_)
  have := kk r g' hq hC hR hW1 hL
  cases r with
  | none => exact this
  | some v => exact this
/-- fewer frames are enough -/
theorem s_less {d2 : Nat} (h : d2 ≤ d) (k : Sim SL d2 y cc nL ret pc L st g Q) : Sim SL d y cc nL ret pc L st g Q := by
  intro p l e R s m args below meth c H locs cells slots Z A dC dI cy ad ls g0 hC hR hW hL
  obtain ⟨c1, c2, c3, c4, c5, c6, c7, c8, c9, c10, c11, c12⟩ := hC
  exact k ⟨c1, c2, c3, c4, c5, c6, c7, c8, c9, c10, ⟨Nat.le_trans h c11.1, Nat.le_trans (Nat.mul_le_mul_left 60 h) c11.2⟩, c12⟩ hR hW hL
end SIMCALL
end
section
theorem fl_X8_11 : m_FL RX8 11 8 0 := ⟨⟨by decide, by decide⟩, Or.inl (List.mem_filter.mpr ⟨List.mem_of_getElem? (i := 321) (by decide +kernel), rfl⟩)⟩
theorem fl_X8_18 : m_FL RX8 18 8 1 := ⟨⟨by decide, by decide⟩, Or.inl (List.mem_filter.mpr ⟨List.mem_of_getElem? (i := 322) (by decide +kernel), rfl⟩)⟩
theorem fl_X8_25 : m_FL RX8 25 8 2 := ⟨⟨by decide, by decide⟩, Or.inl (List.mem_filter.mpr ⟨List.mem_of_getElem? (i := 323) (by decide +kernel), rfl⟩)⟩
theorem fl_X8_29 : m_FL RX8 29 8 3 := ⟨⟨by decide, by decide⟩, Or.inl (List.mem_filter.mpr ⟨List.mem_of_getElem? (i := 324) (by decide +kernel), rfl⟩)⟩
theorem fl_X8_32 : m_FL RX8 32 8 4 := ⟨⟨by decide, by decide⟩, Or.inl (List.mem_filter.mpr ⟨List.mem_of_getElem? (i := 325) (by decide +kernel), rfl⟩)⟩
theorem fl_X8_39 : m_FL RX8 39 8 5 := ⟨⟨by decide, by decide⟩, Or.inl (List.mem_filter.mpr ⟨List.mem_of_getElem? (i := 326) (by decide +kernel), rfl⟩)⟩
theorem fl_X8_46 : m_FL RX8 46 8 6 := ⟨⟨by decide, by decide⟩, Or.inl (List.mem_filter.mpr ⟨List.mem_of_getElem? (i := 327) (by decide +kernel), rfl⟩)⟩
theorem fl_X8_53 : m_FL RX8 53 8 7 := ⟨⟨by decide, by decide⟩, Or.inl (List.mem_filter.mpr ⟨List.mem_of_getElem? (i := 328) (by decide +kernel), rfl⟩)⟩
theorem fl_X8_78 : m_FL RX8 78 4 1 := ⟨⟨by decide, by decide⟩, Or.inr ⟨"SaintHill", (List.mem_filter.mpr ⟨List.mem_of_getElem? (i := 307) (by decide +kernel), rfl⟩)⟩⟩
theorem fl_X8_86 : m_FL RX8 86 4 0 := ⟨⟨by decide, by decide⟩, Or.inr ⟨"SaintHill", (List.mem_filter.mpr ⟨List.mem_of_getElem? (i := 304) (by decide +kernel), rfl⟩)⟩⟩
theorem fl_X8_93 : m_FL RX8 93 4 2 := ⟨⟨by decide, by decide⟩, Or.inr ⟨"SaintHill", (List.mem_filter.mpr ⟨List.mem_of_getElem? (i := 309) (by decide +kernel), rfl⟩)⟩⟩
theorem fl_X8_103 : m_FL RX8 103 4 3 := ⟨⟨by decide, by decide⟩, Or.inr ⟨"SaintHill", (List.mem_filter.mpr ⟨List.mem_of_getElem? (i := 311) (by decide +kernel), rfl⟩)⟩⟩
theorem fl_X8_109 : m_FL RX8 109 6 1 := ⟨⟨by decide, by decide⟩, Or.inr ⟨"SaintHill", (List.mem_filter.mpr ⟨List.mem_of_getElem? (i := 92) (by decide +kernel), rfl⟩)⟩⟩
theorem fl_X8_115 : m_FL RX8 115 6 3 := ⟨⟨by decide, by decide⟩, Or.inr ⟨"SaintHill", (List.mem_filter.mpr ⟨List.mem_of_getElem? (i := 95) (by decide +kernel), rfl⟩)⟩⟩
theorem fl_X8_118 : m_FL RX8 118 8 8 := ⟨⟨by decide, by decide⟩, Or.inl (List.mem_filter.mpr ⟨List.mem_of_getElem? (i := 329) (by decide +kernel), rfl⟩)⟩
theorem fl_X8_122 : m_FL RX8 122 6 4 := ⟨⟨by decide, by decide⟩, Or.inr ⟨"SaintHill", (List.mem_filter.mpr ⟨List.mem_of_getElem? (i := 97) (by decide +kernel), rfl⟩)⟩⟩
theorem fl_X8_129 : m_FL RX8 129 0 3 := ⟨⟨by decide, by decide⟩, Or.inr ⟨"SaintHill", (List.mem_filter.mpr ⟨List.mem_of_getElem? (i := 256) (by decide +kernel), rfl⟩)⟩⟩
theorem fl_X8_132 : m_FL RX8 132 1 10 := ⟨⟨by decide, by decide⟩, Or.inr ⟨"SaintHill", (List.mem_filter.mpr ⟨List.mem_of_getElem? (i := 215) (by decide +kernel), rfl⟩)⟩⟩
theorem fl_X8_135 : m_FL RX8 135 1 2 := ⟨⟨by decide, by decide⟩, Or.inr ⟨"SaintHill", (List.mem_filter.mpr ⟨List.mem_of_getElem? (i := 196) (by decide +kernel), rfl⟩)⟩⟩
theorem fl_X8_139 : m_FL RX8 139 1 9 := ⟨⟨by decide, by decide⟩, Or.inr ⟨"SaintHill", (List.mem_filter.mpr ⟨List.mem_of_getElem? (i := 210) (by decide +kernel), rfl⟩)⟩⟩
theorem fl_X8_159 : m_FL RX8 159 1 11 := ⟨⟨by decide, by decide⟩, Or.inr ⟨"SaintHill", (List.mem_filter.mpr ⟨List.mem_of_getElem? (i := 219) (by decide +kernel), rfl⟩)⟩⟩
theorem fl_X8_169 : m_FL RX8 169 1 0 := ⟨⟨by decide, by decide⟩, Or.inr ⟨"SaintHill", (List.mem_filter.mpr ⟨List.mem_of_getElem? (i := 191) (by decide +kernel), rfl⟩)⟩⟩
theorem fl_X8_181 : m_FL RX8 181 1 6 := ⟨⟨by decide, by decide⟩, Or.inr ⟨"SaintHill", (List.mem_filter.mpr ⟨List.mem_of_getElem? (i := 205) (by decide +kernel), rfl⟩)⟩⟩
theorem fl_X8_187 : m_FL RX8 187 2 1 := ⟨⟨by decide, by decide⟩, Or.inr ⟨"SaintHill", (List.mem_filter.mpr ⟨List.mem_of_getElem? (i := 163) (by decide +kernel), rfl⟩)⟩⟩
theorem fl_X8_190 : m_FL RX8 190 2 2 := ⟨⟨by decide, by decide⟩, Or.inr ⟨"SaintHill", (List.mem_filter.mpr ⟨List.mem_of_getElem? (i := 166) (by decide +kernel), rfl⟩)⟩⟩
theorem fl_X8_193 : m_FL RX8 193 2 3 := ⟨⟨by decide, by decide⟩, Or.inr ⟨"SaintHill", (List.mem_filter.mpr ⟨List.mem_of_getElem? (i := 170) (by decide +kernel), rfl⟩)⟩⟩
theorem fl_X8_196 : m_FL RX8 196 2 4 := ⟨⟨by decide, by decide⟩, Or.inr ⟨"SaintHill", (List.mem_filter.mpr ⟨List.mem_of_getElem? (i := 176) (by decide +kernel), rfl⟩)⟩⟩
theorem fl_X8_202 : m_FL RX8 202 1 3 := ⟨⟨by decide, by decide⟩, Or.inr ⟨"SaintHill", (List.mem_filter.mpr ⟨List.mem_of_getElem? (i := 200) (by decide +kernel), rfl⟩)⟩⟩
theorem fl_X8_205 : m_FL RX8 205 1 1 := ⟨⟨by decide, by decide⟩, Or.inr ⟨"SaintHill", (List.mem_filter.mpr ⟨List.mem_of_getElem? (i := 193) (by decide +kernel), rfl⟩)⟩⟩
theorem fl_X8_209 : m_FL RX8 209 3 1 := ⟨⟨by decide, by decide⟩, Or.inr ⟨"SaintHill", (List.mem_filter.mpr ⟨List.mem_of_getElem? (i := 127) (by decide +kernel), rfl⟩)⟩⟩
theorem fl_X8_214 : m_FL RX8 214 3 0 := ⟨⟨by decide, by decide⟩, Or.inr ⟨"SaintHill", (List.mem_filter.mpr ⟨List.mem_of_getElem? (i := 125) (by decide +kernel), rfl⟩)⟩⟩
theorem fl_X8_218 : m_FL RX8 218 3 3 := ⟨⟨by decide, by decide⟩, Or.inr ⟨"SaintHill", (List.mem_filter.mpr ⟨List.mem_of_getElem? (i := 132) (by decide +kernel), rfl⟩)⟩⟩
theorem fl_X8_243 : m_FL RX8 243 5 1 := ⟨⟨by decide, by decide⟩, Or.inr ⟨"SaintHill", (List.mem_filter.mpr ⟨List.mem_of_getElem? (i := 277) (by decide +kernel), rfl⟩)⟩⟩
theorem fl_X8_253 : m_FL RX8 253 5 0 := ⟨⟨by decide, by decide⟩, Or.inr ⟨"SaintHill", (List.mem_filter.mpr ⟨List.mem_of_getElem? (i := 275) (by decide +kernel), rfl⟩)⟩⟩
theorem fl_X8_283 : m_FL RX8 283 2 0 := ⟨⟨by decide, by decide⟩, Or.inr ⟨"SaintHill", (List.mem_filter.mpr ⟨List.mem_of_getElem? (i := 159) (by decide +kernel), rfl⟩)⟩⟩
theorem fl_X8_289 : m_FL RX8 289 7 1 := ⟨⟨by decide, by decide⟩, Or.inr ⟨"SaintHill", (List.mem_filter.mpr ⟨List.mem_of_getElem? (i := 292) (by decide +kernel), rfl⟩)⟩⟩
theorem fl_X8_294 : m_FL RX8 294 7 0 := ⟨⟨by decide, by decide⟩, Or.inr ⟨"SaintHill", (List.mem_filter.mpr ⟨List.mem_of_getElem? (i := 290) (by decide +kernel), rfl⟩)⟩⟩
theorem fl_X8_303 : m_FL RX8 303 8 9 := ⟨⟨by decide, by decide⟩, Or.inl (List.mem_filter.mpr ⟨List.mem_of_getElem? (i := 330) (by decide +kernel), rfl⟩)⟩
theorem fs_X8_312 : (Cond.fieldLink RX8 312 "SaintHill" "WIDER" "[I" ∈ m_gw) ∨ ∃ host, Cond.fieldLinkNest RX8 312 "SaintHill" "WIDER" "[I" host ∈ m_nw := Or.inl (List.mem_filter.mpr ⟨List.mem_of_getElem? (i := 770) (by decide +kernel), rfl⟩)
theorem fl_X0_9 : m_FL RX0 9 0 0 := ⟨⟨by decide, by decide⟩, Or.inl (List.mem_filter.mpr ⟨List.mem_of_getElem? (i := 252) (by decide +kernel), rfl⟩)⟩
theorem fl_X0_15 : m_FL RX0 15 0 1 := ⟨⟨by decide, by decide⟩, Or.inl (List.mem_filter.mpr ⟨List.mem_of_getElem? (i := 253) (by decide +kernel), rfl⟩)⟩
theorem fl_X0_18 : m_FL RX0 18 0 2 := ⟨⟨by decide, by decide⟩, Or.inl (List.mem_filter.mpr ⟨List.mem_of_getElem? (i := 254) (by decide +kernel), rfl⟩)⟩
theorem fl_X0_21 : m_FL RX0 21 0 3 := ⟨⟨by decide, by decide⟩, Or.inl (List.mem_filter.mpr ⟨List.mem_of_getElem? (i := 255) (by decide +kernel), rfl⟩)⟩
theorem fl_X0_34 : m_FL RX0 34 1 10 := ⟨⟨by decide, by decide⟩, Or.inr ⟨"SaintHill", (List.mem_filter.mpr ⟨List.mem_of_getElem? (i := 212) (by decide +kernel), rfl⟩)⟩⟩
theorem fl_X0_43 : m_FL RX0 43 1 9 := ⟨⟨by decide, by decide⟩, Or.inr ⟨"SaintHill", (List.mem_filter.mpr ⟨List.mem_of_getElem? (i := 209) (by decide +kernel), rfl⟩)⟩⟩
theorem fl_X0_46 : m_FL RX0 46 1 0 := ⟨⟨by decide, by decide⟩, Or.inr ⟨"SaintHill", (List.mem_filter.mpr ⟨List.mem_of_getElem? (i := 190) (by decide +kernel), rfl⟩)⟩⟩
theorem fl_X0_49 : m_FL RX0 49 2 4 := ⟨⟨by decide, by decide⟩, Or.inr ⟨"SaintHill", (List.mem_filter.mpr ⟨List.mem_of_getElem? (i := 172) (by decide +kernel), rfl⟩)⟩⟩
theorem fl_X0_54 : m_FL RX0 54 1 6 := ⟨⟨by decide, by decide⟩, Or.inr ⟨"SaintHill", (List.mem_filter.mpr ⟨List.mem_of_getElem? (i := 204) (by decide +kernel), rfl⟩)⟩⟩
theorem fl_X0_57 : m_FL RX0 57 1 11 := ⟨⟨by decide, by decide⟩, Or.inr ⟨"SaintHill", (List.mem_filter.mpr ⟨List.mem_of_getElem? (i := 218) (by decide +kernel), rfl⟩)⟩⟩
theorem fl_X1_11 : m_FL RX1 11 1 0 := ⟨⟨by decide, by decide⟩, Or.inl (List.mem_filter.mpr ⟨List.mem_of_getElem? (i := 188) (by decide +kernel), rfl⟩)⟩
theorem fl_X1_20 : m_FL RX1 20 1 1 := ⟨⟨by decide, by decide⟩, Or.inl (List.mem_filter.mpr ⟨List.mem_of_getElem? (i := 192) (by decide +kernel), rfl⟩)⟩
theorem fl_X1_25 : m_FL RX1 25 1 2 := ⟨⟨by decide, by decide⟩, Or.inl (List.mem_filter.mpr ⟨List.mem_of_getElem? (i := 194) (by decide +kernel), rfl⟩)⟩
theorem fl_X1_29 : m_FL RX1 29 1 3 := ⟨⟨by decide, by decide⟩, Or.inl (List.mem_filter.mpr ⟨List.mem_of_getElem? (i := 197) (by decide +kernel), rfl⟩)⟩
theorem fl_X1_33 : m_FL RX1 33 1 4 := ⟨⟨by decide, by decide⟩, Or.inl (List.mem_filter.mpr ⟨List.mem_of_getElem? (i := 201) (by decide +kernel), rfl⟩)⟩
theorem fl_X1_36 : m_FL RX1 36 1 5 := ⟨⟨by decide, by decide⟩, Or.inl (List.mem_filter.mpr ⟨List.mem_of_getElem? (i := 202) (by decide +kernel), rfl⟩)⟩
theorem fl_X1_39 : m_FL RX1 39 1 6 := ⟨⟨by decide, by decide⟩, Or.inl (List.mem_filter.mpr ⟨List.mem_of_getElem? (i := 203) (by decide +kernel), rfl⟩)⟩
theorem fl_X1_42 : m_FL RX1 42 1 7 := ⟨⟨by decide, by decide⟩, Or.inl (List.mem_filter.mpr ⟨List.mem_of_getElem? (i := 206) (by decide +kernel), rfl⟩)⟩
theorem fl_X1_45 : m_FL RX1 45 1 8 := ⟨⟨by decide, by decide⟩, Or.inl (List.mem_filter.mpr ⟨List.mem_of_getElem? (i := 207) (by decide +kernel), rfl⟩)⟩
theorem fl_X1_48 : m_FL RX1 48 1 9 := ⟨⟨by decide, by decide⟩, Or.inl (List.mem_filter.mpr ⟨List.mem_of_getElem? (i := 208) (by decide +kernel), rfl⟩)⟩
theorem fl_X1_51 : m_FL RX1 51 1 10 := ⟨⟨by decide, by decide⟩, Or.inl (List.mem_filter.mpr ⟨List.mem_of_getElem? (i := 211) (by decide +kernel), rfl⟩)⟩
theorem fl_X1_54 : m_FL RX1 54 1 11 := ⟨⟨by decide, by decide⟩, Or.inl (List.mem_filter.mpr ⟨List.mem_of_getElem? (i := 217) (by decide +kernel), rfl⟩)⟩
theorem fl_X1_61 : m_FL RX1 61 2 0 := ⟨⟨by decide, by decide⟩, Or.inr ⟨"SaintHill", (List.mem_filter.mpr ⟨List.mem_of_getElem? (i := 157) (by decide +kernel), rfl⟩)⟩⟩
theorem fl_X1_68 : m_FL RX1 68 2 3 := ⟨⟨by decide, by decide⟩, Or.inr ⟨"SaintHill", (List.mem_filter.mpr ⟨List.mem_of_getElem? (i := 168) (by decide +kernel), rfl⟩)⟩⟩
theorem fl_X1_71 : m_FL RX1 71 2 4 := ⟨⟨by decide, by decide⟩, Or.inr ⟨"SaintHill", (List.mem_filter.mpr ⟨List.mem_of_getElem? (i := 173) (by decide +kernel), rfl⟩)⟩⟩
theorem fl_X1_74 : m_FL RX1 74 2 1 := ⟨⟨by decide, by decide⟩, Or.inr ⟨"SaintHill", (List.mem_filter.mpr ⟨List.mem_of_getElem? (i := 162) (by decide +kernel), rfl⟩)⟩⟩
theorem fl_X1_77 : m_FL RX1 77 2 2 := ⟨⟨by decide, by decide⟩, Or.inr ⟨"SaintHill", (List.mem_filter.mpr ⟨List.mem_of_getElem? (i := 165) (by decide +kernel), rfl⟩)⟩⟩
theorem fl_X1_90 : m_FL RX1 90 3 5 := ⟨⟨by decide, by decide⟩, Or.inr ⟨"SaintHill", (List.mem_filter.mpr ⟨List.mem_of_getElem? (i := 136) (by decide +kernel), rfl⟩)⟩⟩
theorem fl_X1_97 : m_FL RX1 97 3 2 := ⟨⟨by decide, by decide⟩, Or.inr ⟨"SaintHill", (List.mem_filter.mpr ⟨List.mem_of_getElem? (i := 129) (by decide +kernel), rfl⟩)⟩⟩
theorem fl_X1_108 : m_FL RX1 108 3 4 := ⟨⟨by decide, by decide⟩, Or.inr ⟨"SaintHill", (List.mem_filter.mpr ⟨List.mem_of_getElem? (i := 134) (by decide +kernel), rfl⟩)⟩⟩
theorem fl_X1_114 : m_FL RX1 114 3 3 := ⟨⟨by decide, by decide⟩, Or.inr ⟨"SaintHill", (List.mem_filter.mpr ⟨List.mem_of_getElem? (i := 131) (by decide +kernel), rfl⟩)⟩⟩
theorem fl_X2_7 : m_FL RX2 7 2 0 := ⟨⟨by decide, by decide⟩, Or.inl (List.mem_filter.mpr ⟨List.mem_of_getElem? (i := 155) (by decide +kernel), rfl⟩)⟩
theorem fl_X2_13 : m_FL RX2 13 2 1 := ⟨⟨by decide, by decide⟩, Or.inl (List.mem_filter.mpr ⟨List.mem_of_getElem? (i := 160) (by decide +kernel), rfl⟩)⟩
theorem fl_X2_16 : m_FL RX2 16 2 2 := ⟨⟨by decide, by decide⟩, Or.inl (List.mem_filter.mpr ⟨List.mem_of_getElem? (i := 164) (by decide +kernel), rfl⟩)⟩
theorem fl_X2_19 : m_FL RX2 19 2 3 := ⟨⟨by decide, by decide⟩, Or.inl (List.mem_filter.mpr ⟨List.mem_of_getElem? (i := 167) (by decide +kernel), rfl⟩)⟩
theorem fl_X2_22 : m_FL RX2 22 2 4 := ⟨⟨by decide, by decide⟩, Or.inl (List.mem_filter.mpr ⟨List.mem_of_getElem? (i := 171) (by decide +kernel), rfl⟩)⟩
theorem fl_X3_9 : m_FL RX3 9 3 0 := ⟨⟨by decide, by decide⟩, Or.inl (List.mem_filter.mpr ⟨List.mem_of_getElem? (i := 124) (by decide +kernel), rfl⟩)⟩
theorem fl_X3_15 : m_FL RX3 15 3 2 := ⟨⟨by decide, by decide⟩, Or.inl (List.mem_filter.mpr ⟨List.mem_of_getElem? (i := 128) (by decide +kernel), rfl⟩)⟩
theorem fl_X3_19 : m_FL RX3 19 3 3 := ⟨⟨by decide, by decide⟩, Or.inl (List.mem_filter.mpr ⟨List.mem_of_getElem? (i := 130) (by decide +kernel), rfl⟩)⟩
theorem fl_X3_22 : m_FL RX3 22 3 4 := ⟨⟨by decide, by decide⟩, Or.inl (List.mem_filter.mpr ⟨List.mem_of_getElem? (i := 133) (by decide +kernel), rfl⟩)⟩
theorem fl_X3_25 : m_FL RX3 25 3 5 := ⟨⟨by decide, by decide⟩, Or.inl (List.mem_filter.mpr ⟨List.mem_of_getElem? (i := 135) (by decide +kernel), rfl⟩)⟩
theorem fl_X3_33 : m_FL RX3 33 3 1 := ⟨⟨by decide, by decide⟩, Or.inl (List.mem_filter.mpr ⟨List.mem_of_getElem? (i := 126) (by decide +kernel), rfl⟩)⟩
theorem fl_X4_9 : m_FL RX4 9 4 0 := ⟨⟨by decide, by decide⟩, Or.inl (List.mem_filter.mpr ⟨List.mem_of_getElem? (i := 303) (by decide +kernel), rfl⟩)⟩
theorem fl_X4_15 : m_FL RX4 15 4 1 := ⟨⟨by decide, by decide⟩, Or.inl (List.mem_filter.mpr ⟨List.mem_of_getElem? (i := 306) (by decide +kernel), rfl⟩)⟩
theorem fl_X4_19 : m_FL RX4 19 4 2 := ⟨⟨by decide, by decide⟩, Or.inl (List.mem_filter.mpr ⟨List.mem_of_getElem? (i := 308) (by decide +kernel), rfl⟩)⟩
theorem fl_X4_23 : m_FL RX4 23 4 3 := ⟨⟨by decide, by decide⟩, Or.inl (List.mem_filter.mpr ⟨List.mem_of_getElem? (i := 310) (by decide +kernel), rfl⟩)⟩
theorem fl_X5_12 : m_FL RX5 12 5 0 := ⟨⟨by decide, by decide⟩, Or.inl (List.mem_filter.mpr ⟨List.mem_of_getElem? (i := 274) (by decide +kernel), rfl⟩)⟩
theorem fl_X5_32 : m_FL RX5 32 1 11 := ⟨⟨by decide, by decide⟩, Or.inr ⟨"SaintHill", (List.mem_filter.mpr ⟨List.mem_of_getElem? (i := 216) (by decide +kernel), rfl⟩)⟩⟩
theorem fl_X5_39 : m_FL RX5 39 1 0 := ⟨⟨by decide, by decide⟩, Or.inr ⟨"SaintHill", (List.mem_filter.mpr ⟨List.mem_of_getElem? (i := 189) (by decide +kernel), rfl⟩)⟩⟩
theorem fl_X5_48 : m_FL RX5 48 5 1 := ⟨⟨by decide, by decide⟩, Or.inl (List.mem_filter.mpr ⟨List.mem_of_getElem? (i := 276) (by decide +kernel), rfl⟩)⟩
theorem fl_X5_51 : m_FL RX5 51 1 3 := ⟨⟨by decide, by decide⟩, Or.inr ⟨"SaintHill", (List.mem_filter.mpr ⟨List.mem_of_getElem? (i := 198) (by decide +kernel), rfl⟩)⟩⟩
theorem fl_X5_68 : m_FL RX5 68 1 10 := ⟨⟨by decide, by decide⟩, Or.inr ⟨"SaintHill", (List.mem_filter.mpr ⟨List.mem_of_getElem? (i := 214) (by decide +kernel), rfl⟩)⟩⟩
theorem fl_X5_71 : m_FL RX5 71 2 3 := ⟨⟨by decide, by decide⟩, Or.inr ⟨"SaintHill", (List.mem_filter.mpr ⟨List.mem_of_getElem? (i := 169) (by decide +kernel), rfl⟩)⟩⟩
theorem fs_X5_77 : (Cond.fieldLink RX5 77 "SaintHill$Hill" "LEAST" "[I" ∈ m_gw) ∨ ∃ host, Cond.fieldLinkNest RX5 77 "SaintHill$Hill" "LEAST" "[I" host ∈ m_nw := Or.inr ⟨"SaintHill", (List.mem_filter.mpr ⟨List.mem_of_getElem? (i := 694) (by decide +kernel), rfl⟩)⟩
theorem fs_X5_85 : (Cond.fieldLink RX5 85 "SaintHill$Hill" "MOST" "[I" ∈ m_gw) ∨ ∃ host, Cond.fieldLinkNest RX5 85 "SaintHill$Hill" "MOST" "[I" host ∈ m_nw := Or.inr ⟨"SaintHill", (List.mem_filter.mpr ⟨List.mem_of_getElem? (i := 696) (by decide +kernel), rfl⟩)⟩
theorem fl_X5_95 : m_FL RX5 95 2 0 := ⟨⟨by decide, by decide⟩, Or.inr ⟨"SaintHill", (List.mem_filter.mpr ⟨List.mem_of_getElem? (i := 158) (by decide +kernel), rfl⟩)⟩⟩
theorem fl_X5_98 : m_FL RX5 98 4 0 := ⟨⟨by decide, by decide⟩, Or.inr ⟨"SaintHill", (List.mem_filter.mpr ⟨List.mem_of_getElem? (i := 305) (by decide +kernel), rfl⟩)⟩⟩
theorem fl_X5_120 : m_FL RX5 120 2 4 := ⟨⟨by decide, by decide⟩, Or.inr ⟨"SaintHill", (List.mem_filter.mpr ⟨List.mem_of_getElem? (i := 175) (by decide +kernel), rfl⟩)⟩⟩
theorem fl_X6_9 : m_FL RX6 9 6 0 := ⟨⟨by decide, by decide⟩, Or.inl (List.mem_filter.mpr ⟨List.mem_of_getElem? (i := 90) (by decide +kernel), rfl⟩)⟩
theorem fl_X6_15 : m_FL RX6 15 6 1 := ⟨⟨by decide, by decide⟩, Or.inl (List.mem_filter.mpr ⟨List.mem_of_getElem? (i := 91) (by decide +kernel), rfl⟩)⟩
theorem fl_X6_19 : m_FL RX6 19 6 2 := ⟨⟨by decide, by decide⟩, Or.inl (List.mem_filter.mpr ⟨List.mem_of_getElem? (i := 93) (by decide +kernel), rfl⟩)⟩
theorem fl_X6_22 : m_FL RX6 22 6 3 := ⟨⟨by decide, by decide⟩, Or.inl (List.mem_filter.mpr ⟨List.mem_of_getElem? (i := 94) (by decide +kernel), rfl⟩)⟩
theorem fl_X6_25 : m_FL RX6 25 6 4 := ⟨⟨by decide, by decide⟩, Or.inl (List.mem_filter.mpr ⟨List.mem_of_getElem? (i := 96) (by decide +kernel), rfl⟩)⟩
theorem fl_X6_40 : m_FL RX6 40 1 2 := ⟨⟨by decide, by decide⟩, Or.inr ⟨"SaintHill", (List.mem_filter.mpr ⟨List.mem_of_getElem? (i := 195) (by decide +kernel), rfl⟩)⟩⟩
theorem fs_X6_48 : (Cond.fieldLink RX6 48 "SaintHill$Hill" "LEAST" "[I" ∈ m_gw) ∨ ∃ host, Cond.fieldLinkNest RX6 48 "SaintHill$Hill" "LEAST" "[I" host ∈ m_nw := Or.inr ⟨"SaintHill", (List.mem_filter.mpr ⟨List.mem_of_getElem? (i := 437) (by decide +kernel), rfl⟩)⟩
theorem fs_X6_51 : (Cond.fieldLink RX6 51 "SaintHill$Hill" "MOST" "[I" ∈ m_gw) ∨ ∃ host, Cond.fieldLinkNest RX6 51 "SaintHill$Hill" "MOST" "[I" host ∈ m_nw := Or.inr ⟨"SaintHill", (List.mem_filter.mpr ⟨List.mem_of_getElem? (i := 439) (by decide +kernel), rfl⟩)⟩
theorem fl_X6_73 : m_FL RX6 73 1 10 := ⟨⟨by decide, by decide⟩, Or.inr ⟨"SaintHill", (List.mem_filter.mpr ⟨List.mem_of_getElem? (i := 213) (by decide +kernel), rfl⟩)⟩⟩
theorem fl_X6_76 : m_FL RX6 76 1 3 := ⟨⟨by decide, by decide⟩, Or.inr ⟨"SaintHill", (List.mem_filter.mpr ⟨List.mem_of_getElem? (i := 199) (by decide +kernel), rfl⟩)⟩⟩
theorem fl_X7_9 : m_FL RX7 9 7 0 := ⟨⟨by decide, by decide⟩, Or.inl (List.mem_filter.mpr ⟨List.mem_of_getElem? (i := 289) (by decide +kernel), rfl⟩)⟩
theorem fl_X7_15 : m_FL RX7 15 7 1 := ⟨⟨by decide, by decide⟩, Or.inl (List.mem_filter.mpr ⟨List.mem_of_getElem? (i := 291) (by decide +kernel), rfl⟩)⟩
theorem fl_X7_27 : m_FL RX7 27 2 0 := ⟨⟨by decide, by decide⟩, Or.inr ⟨"SaintHill", (List.mem_filter.mpr ⟨List.mem_of_getElem? (i := 156) (by decide +kernel), rfl⟩)⟩⟩
theorem fs_X7_36 : (Cond.fieldLink RX7 36 "SaintHill$Trace" "SIZE_BODY" "[I" ∈ m_gw) ∨ ∃ host, Cond.fieldLinkNest RX7 36 "SaintHill$Trace" "SIZE_BODY" "[I" host ∈ m_nw := Or.inl (List.mem_filter.mpr ⟨List.mem_of_getElem? (i := 783) (by decide +kernel), rfl⟩)
theorem fs_X7_39 : (Cond.fieldLink RX7 39 "SaintHill$Trace" "MARK_BODY" "[I" ∈ m_gw) ∨ ∃ host, Cond.fieldLinkNest RX7 39 "SaintHill$Trace" "MARK_BODY" "[I" host ∈ m_nw := Or.inl (List.mem_filter.mpr ⟨List.mem_of_getElem? (i := 785) (by decide +kernel), rfl⟩)
theorem fl_X7_46 : m_FL RX7 46 2 1 := ⟨⟨by decide, by decide⟩, Or.inr ⟨"SaintHill", (List.mem_filter.mpr ⟨List.mem_of_getElem? (i := 161) (by decide +kernel), rfl⟩)⟩⟩
theorem fl_X7_49 : m_FL RX7 49 2 4 := ⟨⟨by decide, by decide⟩, Or.inr ⟨"SaintHill", (List.mem_filter.mpr ⟨List.mem_of_getElem? (i := 174) (by decide +kernel), rfl⟩)⟩⟩
theorem fl_X9_7 : m_FL RX9 7 9 0 := ⟨⟨by decide, by decide⟩, Or.inl (List.mem_filter.mpr ⟨List.mem_of_getElem? (i := 817) (by decide +kernel), rfl⟩)⟩
theorem fl_X9_13 : m_FL RX9 13 9 3 := ⟨⟨by decide, by decide⟩, Or.inl (List.mem_filter.mpr ⟨List.mem_of_getElem? (i := 820) (by decide +kernel), rfl⟩)⟩
theorem fl_X9_17 : m_FL RX9 17 9 4 := ⟨⟨by decide, by decide⟩, Or.inl (List.mem_filter.mpr ⟨List.mem_of_getElem? (i := 821) (by decide +kernel), rfl⟩)⟩
theorem fl_X9_20 : m_FL RX9 20 9 5 := ⟨⟨by decide, by decide⟩, Or.inl (List.mem_filter.mpr ⟨List.mem_of_getElem? (i := 822) (by decide +kernel), rfl⟩)⟩
theorem fl_X9_23 : m_FL RX9 23 9 6 := ⟨⟨by decide, by decide⟩, Or.inl (List.mem_filter.mpr ⟨List.mem_of_getElem? (i := 823) (by decide +kernel), rfl⟩)⟩
theorem fl_X9_26 : m_FL RX9 26 9 7 := ⟨⟨by decide, by decide⟩, Or.inl (List.mem_filter.mpr ⟨List.mem_of_getElem? (i := 824) (by decide +kernel), rfl⟩)⟩
theorem fl_X9_29 : m_FL RX9 29 9 11 := ⟨⟨by decide, by decide⟩, Or.inl (List.mem_filter.mpr ⟨List.mem_of_getElem? (i := 828) (by decide +kernel), rfl⟩)⟩
theorem fl_X9_32 : m_FL RX9 32 9 16 := ⟨⟨by decide, by decide⟩, Or.inl (List.mem_filter.mpr ⟨List.mem_of_getElem? (i := 833) (by decide +kernel), rfl⟩)⟩
theorem fl_X9_35 : m_FL RX9 35 9 17 := ⟨⟨by decide, by decide⟩, Or.inl (List.mem_filter.mpr ⟨List.mem_of_getElem? (i := 834) (by decide +kernel), rfl⟩)⟩
theorem fl_X9_38 : m_FL RX9 38 9 18 := ⟨⟨by decide, by decide⟩, Or.inl (List.mem_filter.mpr ⟨List.mem_of_getElem? (i := 835) (by decide +kernel), rfl⟩)⟩
theorem fl_X9_41 : m_FL RX9 41 9 19 := ⟨⟨by decide, by decide⟩, Or.inl (List.mem_filter.mpr ⟨List.mem_of_getElem? (i := 836) (by decide +kernel), rfl⟩)⟩
theorem fl_X9_44 : m_FL RX9 44 9 21 := ⟨⟨by decide, by decide⟩, Or.inl (List.mem_filter.mpr ⟨List.mem_of_getElem? (i := 838) (by decide +kernel), rfl⟩)⟩
theorem fl_X9_47 : m_FL RX9 47 9 22 := ⟨⟨by decide, by decide⟩, Or.inl (List.mem_filter.mpr ⟨List.mem_of_getElem? (i := 839) (by decide +kernel), rfl⟩)⟩
theorem fl_X9_50 : m_FL RX9 50 9 23 := ⟨⟨by decide, by decide⟩, Or.inl (List.mem_filter.mpr ⟨List.mem_of_getElem? (i := 840) (by decide +kernel), rfl⟩)⟩
theorem fl_X9_53 : m_FL RX9 53 9 10 := ⟨⟨by decide, by decide⟩, Or.inl (List.mem_filter.mpr ⟨List.mem_of_getElem? (i := 827) (by decide +kernel), rfl⟩)⟩
theorem fl_X9_88 : m_FL RX9 88 9 8 := ⟨⟨by decide, by decide⟩, Or.inl (List.mem_filter.mpr ⟨List.mem_of_getElem? (i := 825) (by decide +kernel), rfl⟩)⟩
theorem fl_X9_92 : m_FL RX9 92 9 13 := ⟨⟨by decide, by decide⟩, Or.inl (List.mem_filter.mpr ⟨List.mem_of_getElem? (i := 830) (by decide +kernel), rfl⟩)⟩
theorem fl_X9_99 : m_FL RX9 99 9 14 := ⟨⟨by decide, by decide⟩, Or.inl (List.mem_filter.mpr ⟨List.mem_of_getElem? (i := 831) (by decide +kernel), rfl⟩)⟩
theorem fl_X9_111 : m_FL RX9 111 9 15 := ⟨⟨by decide, by decide⟩, Or.inl (List.mem_filter.mpr ⟨List.mem_of_getElem? (i := 832) (by decide +kernel), rfl⟩)⟩
theorem fl_X9_142 : m_FL RX9 142 9 9 := ⟨⟨by decide, by decide⟩, Or.inl (List.mem_filter.mpr ⟨List.mem_of_getElem? (i := 826) (by decide +kernel), rfl⟩)⟩
theorem fl_X9_150 : m_FL RX9 150 9 1 := ⟨⟨by decide, by decide⟩, Or.inl (List.mem_filter.mpr ⟨List.mem_of_getElem? (i := 818) (by decide +kernel), rfl⟩)⟩
theorem fl_X9_154 : m_FL RX9 154 9 2 := ⟨⟨by decide, by decide⟩, Or.inl (List.mem_filter.mpr ⟨List.mem_of_getElem? (i := 819) (by decide +kernel), rfl⟩)⟩
theorem fl_X9_161 : m_FL RX9 161 9 20 := ⟨⟨by decide, by decide⟩, Or.inl (List.mem_filter.mpr ⟨List.mem_of_getElem? (i := 837) (by decide +kernel), rfl⟩)⟩
theorem fl_X9_256 : m_FL RX9 256 9 12 := ⟨⟨by decide, by decide⟩, Or.inl (List.mem_filter.mpr ⟨List.mem_of_getElem? (i := 829) (by decide +kernel), rfl⟩)⟩
theorem ml_X8_17 : m_ML RX8 17 yX6_init := Or.inr ⟨"SaintHill", (List.mem_filter.mpr ⟨List.mem_of_getElem? (i := 86) (by decide +kernel), rfl⟩)⟩
theorem ml_X8_24 : m_ML RX8 24 yX1_init := Or.inl (List.mem_filter.mpr ⟨List.mem_of_getElem? (i := 112) (by decide +kernel), rfl⟩)
theorem ml_X8_38 : m_ML RX8 38 yX0_init := Or.inr ⟨"SaintHill", (List.mem_filter.mpr ⟨List.mem_of_getElem? (i := 248) (by decide +kernel), rfl⟩)⟩
theorem ml_X8_45 : m_ML RX8 45 yX5_init := Or.inr ⟨"SaintHill", (List.mem_filter.mpr ⟨List.mem_of_getElem? (i := 268) (by decide +kernel), rfl⟩)⟩
theorem ml_X8_52 : m_ML RX8 52 yX7_init := Or.inr ⟨"SaintHill", (List.mem_filter.mpr ⟨List.mem_of_getElem? (i := 285) (by decide +kernel), rfl⟩)⟩
theorem ml_X8_57 : m_ML RX8 57 yX4_init := Or.inr ⟨"SaintHill", (List.mem_filter.mpr ⟨List.mem_of_getElem? (i := 299) (by decide +kernel), rfl⟩)⟩
theorem ml_X8_58 : m_ML RX8 58 yX8_isRow := Or.inl (List.mem_filter.mpr ⟨List.mem_of_getElem? (i := 356) (by decide +kernel), rfl⟩)
theorem ml_X8_62 : m_ML RX8 62 yX8_within := Or.inl (List.mem_filter.mpr ⟨List.mem_of_getElem? (i := 359) (by decide +kernel), rfl⟩)
theorem ml_X8_67 : m_ML RX8 67 yX8_found := Or.inl (List.mem_filter.mpr ⟨List.mem_of_getElem? (i := 363) (by decide +kernel), rfl⟩)
theorem ml_X8_71 : m_ML RX8 71 yX4_begin := Or.inl (List.mem_filter.mpr ⟨List.mem_of_getElem? (i := 368) (by decide +kernel), rfl⟩)
theorem ml_X8_75 : m_ML RX8 75 yX8_fine := Or.inl (List.mem_filter.mpr ⟨List.mem_of_getElem? (i := 372) (by decide +kernel), rfl⟩)
theorem ml_X8_82 : m_ML RX8 82 yX4_reaches := Or.inl (List.mem_filter.mpr ⟨List.mem_of_getElem? (i := 380) (by decide +kernel), rfl⟩)
theorem ml_X8_90 : m_ML RX8 90 yX4_cut := Or.inl (List.mem_filter.mpr ⟨List.mem_of_getElem? (i := 384) (by decide +kernel), rfl⟩)
theorem mlc_X8_97 : Cond.methodLink RX8 97 arraycopyName ∈ m_gw := (List.mem_filter.mpr ⟨List.mem_of_getElem? (i := 392) (by decide +kernel), rfl⟩)
theorem ml_X8_106 : m_ML RX8 106 yX6_append := Or.inl (List.mem_filter.mpr ⟨List.mem_of_getElem? (i := 403) (by decide +kernel), rfl⟩)
theorem ml_X8_111 : m_ML RX8 111 yX6_readInto := Or.inl (List.mem_filter.mpr ⟨List.mem_of_getElem? (i := 412) (by decide +kernel), rfl⟩)
theorem ml_X8_125 : m_ML RX8 125 yX1_become := Or.inl (List.mem_filter.mpr ⟨List.mem_of_getElem? (i := 469) (by decide +kernel), rfl⟩)
theorem ml_X8_142 : m_ML RX8 142 yX1_passYear := Or.inl (List.mem_filter.mpr ⟨List.mem_of_getElem? (i := 486) (by decide +kernel), rfl⟩)
theorem ml_X8_146 : m_ML RX8 146 yX0_keep := Or.inl (List.mem_filter.mpr ⟨List.mem_of_getElem? (i := 534) (by decide +kernel), rfl⟩)
theorem ml_X8_150 : m_ML RX8 150 yX8_orNone := Or.inl (List.mem_filter.mpr ⟨List.mem_of_getElem? (i := 543) (by decide +kernel), rfl⟩)
theorem ml_X8_153 : m_ML RX8 153 yX8_isHouse := Or.inl (List.mem_filter.mpr ⟨List.mem_of_getElem? (i := 551) (by decide +kernel), rfl⟩)
theorem ml_X8_156 : m_ML RX8 156 yX1_openness := Or.inl (List.mem_filter.mpr ⟨List.mem_of_getElem? (i := 555) (by decide +kernel), rfl⟩)
theorem ml_X8_162 : m_ML RX8 162 yX8_isCell := Or.inl (List.mem_filter.mpr ⟨List.mem_of_getElem? (i := 560) (by decide +kernel), rfl⟩)
theorem ml_X8_165 : m_ML RX8 165 yX1_standing := Or.inl (List.mem_filter.mpr ⟨List.mem_of_getElem? (i := 564) (by decide +kernel), rfl⟩)
theorem ml_X8_173 : m_ML RX8 173 yX2_cell := Or.inl (List.mem_filter.mpr ⟨List.mem_of_getElem? (i := 565) (by decide +kernel), rfl⟩)
theorem ml_X8_178 : m_ML RX8 178 yX2_stand := Or.inl (List.mem_filter.mpr ⟨List.mem_of_getElem? (i := 569) (by decide +kernel), rfl⟩)
theorem ml_X8_184 : m_ML RX8 184 yX0_takeBackLatest := Or.inl (List.mem_filter.mpr ⟨List.mem_of_getElem? (i := 578) (by decide +kernel), rfl⟩)
theorem ml_X8_199 : m_ML RX8 199 yX1_restIn := Or.inl (List.mem_filter.mpr ⟨List.mem_of_getElem? (i := 596) (by decide +kernel), rfl⟩)
theorem ml_X8_219 : m_ML RX8 219 yJ9_max_7cf53 := Or.inl (List.mem_filter.mpr ⟨List.mem_of_getElem? (i := 605) (by decide +kernel), rfl⟩)
theorem ml_X8_224 : m_ML RX8 224 yX1_firstAt := Or.inl (List.mem_filter.mpr ⟨List.mem_of_getElem? (i := 610) (by decide +kernel), rfl⟩)
theorem ml_X8_227 : m_ML RX8 227 yX1_timesAt := Or.inl (List.mem_filter.mpr ⟨List.mem_of_getElem? (i := 618) (by decide +kernel), rfl⟩)
theorem ml_X8_230 : m_ML RX8 230 yX5_fewestDoors := Or.inl (List.mem_filter.mpr ⟨List.mem_of_getElem? (i := 626) (by decide +kernel), rfl⟩)
theorem ml_X8_234 : m_ML RX8 234 yX8_sizeOrSet := Or.inl (List.mem_filter.mpr ⟨List.mem_of_getElem? (i := 642) (by decide +kernel), rfl⟩)
theorem ml_X8_237 : m_ML RX8 237 yX1_allHouses := Or.inl (List.mem_filter.mpr ⟨List.mem_of_getElem? (i := 650) (by decide +kernel), rfl⟩)
theorem ml_X8_240 : m_ML RX8 240 yX5_bestCell := Or.inl (List.mem_filter.mpr ⟨List.mem_of_getElem? (i := 655) (by decide +kernel), rfl⟩)
theorem ml_X8_246 : m_ML RX8 246 yX5_sulkersNow := Or.inl (List.mem_filter.mpr ⟨List.mem_of_getElem? (i := 667) (by decide +kernel), rfl⟩)
theorem ml_X8_250 : m_ML RX8 250 yX5_turnsToPeace := Or.inl (List.mem_filter.mpr ⟨List.mem_of_getElem? (i := 679) (by decide +kernel), rfl⟩)
theorem ml_X8_256 : m_ML RX8 256 yX5_lawsThatFit := Or.inl (List.mem_filter.mpr ⟨List.mem_of_getElem? (i := 690) (by decide +kernel), rfl⟩)
theorem ml_X8_260 : m_ML RX8 260 yX5_kindsThatFit := Or.inl (List.mem_filter.mpr ⟨List.mem_of_getElem? (i := 706) (by decide +kernel), rfl⟩)
theorem ml_X8_263 : m_ML RX8 263 yX5_playedWays := Or.inl (List.mem_filter.mpr ⟨List.mem_of_getElem? (i := 714) (by decide +kernel), rfl⟩)
theorem ml_X8_266 : m_ML RX8 266 yX8_power := Or.inl (List.mem_filter.mpr ⟨List.mem_of_getElem? (i := 721) (by decide +kernel), rfl⟩)
theorem ml_X8_269 : m_ML RX8 269 yX8_commonDivisor := Or.inl (List.mem_filter.mpr ⟨List.mem_of_getElem? (i := 722) (by decide +kernel), rfl⟩)
theorem ml_X8_273 : m_ML RX8 273 yX5_drawCentury := Or.inl (List.mem_filter.mpr ⟨List.mem_of_getElem? (i := 730) (by decide +kernel), rfl⟩)
theorem ml_X8_277 : m_ML RX8 277 yX1_allGot := Or.inl (List.mem_filter.mpr ⟨List.mem_of_getElem? (i := 743) (by decide +kernel), rfl⟩)
theorem ml_X8_280 : m_ML RX8 280 yX1_mostFavoured := Or.inl (List.mem_filter.mpr ⟨List.mem_of_getElem? (i := 747) (by decide +kernel), rfl⟩)
theorem ml_X8_286 : m_ML RX8 286 yX8_isOfKind := Or.inl (List.mem_filter.mpr ⟨List.mem_of_getElem? (i := 767) (by decide +kernel), rfl⟩)
theorem ml_X8_290 : m_ML RX8 290 yX7_answer := Or.inl (List.mem_filter.mpr ⟨List.mem_of_getElem? (i := 776) (by decide +kernel), rfl⟩)
theorem ml_X8_297 : m_ML RX8 297 yX8_rowsThere := Or.inl (List.mem_filter.mpr ⟨List.mem_of_getElem? (i := 802) (by decide +kernel), rfl⟩)
theorem ml_X8_300 : m_ML RX8 300 yX1_topLine := Or.inl (List.mem_filter.mpr ⟨List.mem_of_getElem? (i := 806) (by decide +kernel), rfl⟩)
theorem ml_X8_307 : m_ML RX8 307 yJ6_bitCount_0f7a4 := Or.inl (List.mem_filter.mpr ⟨List.mem_of_getElem? (i := 645) (by decide +kernel), rfl⟩)
theorem ml_X0_25 : m_ML RX0 25 yX0_forgetOldest := Or.inl (List.mem_filter.mpr ⟨List.mem_of_getElem? (i := 538) (by decide +kernel), rfl⟩)
theorem mlc_X0_28 : Cond.methodLink RX0 28 arraycopyName ∈ m_gw := (List.mem_filter.mpr ⟨List.mem_of_getElem? (i := 542) (by decide +kernel), rfl⟩)
theorem ml_X0_39 : m_ML RX0 39 yX8_within := Or.inr ⟨"SaintHill", (List.mem_filter.mpr ⟨List.mem_of_getElem? (i := 582) (by decide +kernel), rfl⟩)⟩
theorem ml_X0_60 : m_ML RX0 60 yX2_stand := Or.inl (List.mem_filter.mpr ⟨List.mem_of_getElem? (i := 583) (by decide +kernel), rfl⟩)
theorem ml_X1_19 : m_ML RX1 19 yX3_init := Or.inr ⟨"SaintHill", (List.mem_filter.mpr ⟨List.mem_of_getElem? (i := 120) (by decide +kernel), rfl⟩)⟩
theorem ml_X1_24 : m_ML RX1 24 yX2_init := Or.inr ⟨"SaintHill", (List.mem_filter.mpr ⟨List.mem_of_getElem? (i := 151) (by decide +kernel), rfl⟩)⟩
theorem ml_X1_57 : m_ML RX1 57 yX2_become := Or.inl (List.mem_filter.mpr ⟨List.mem_of_getElem? (i := 473) (by decide +kernel), rfl⟩)
theorem ml_X1_64 : m_ML RX1 64 yX2_stand := Or.inl (List.mem_filter.mpr ⟨List.mem_of_getElem? (i := 464) (by decide +kernel), rfl⟩)
theorem ml_X1_80 : m_ML RX1 80 yX1_topLine := Or.inl (List.mem_filter.mpr ⟨List.mem_of_getElem? (i := 494) (by decide +kernel), rfl⟩)
theorem ml_X1_84 : m_ML RX1 84 yX1_letGo := Or.inl (List.mem_filter.mpr ⟨List.mem_of_getElem? (i := 498) (by decide +kernel), rfl⟩)
theorem ml_X1_87 : m_ML RX1 87 yX3_begin := Or.inl (List.mem_filter.mpr ⟨List.mem_of_getElem? (i := 502) (by decide +kernel), rfl⟩)
theorem ml_X1_93 : m_ML RX1 93 yX3_turn := Or.inl (List.mem_filter.mpr ⟨List.mem_of_getElem? (i := 510) (by decide +kernel), rfl⟩)
theorem ml_X1_98 : m_ML RX1 98 yX1_standing := Or.inl (List.mem_filter.mpr ⟨List.mem_of_getElem? (i := 520) (by decide +kernel), rfl⟩)
theorem ml_X1_102 : m_ML RX1 102 yX1_meet := Or.inl (List.mem_filter.mpr ⟨List.mem_of_getElem? (i := 521) (by decide +kernel), rfl⟩)
theorem ml_X1_105 : m_ML RX1 105 yX3_reach := Or.inl (List.mem_filter.mpr ⟨List.mem_of_getElem? (i := 533) (by decide +kernel), rfl⟩)
theorem ml_X1_111 : m_ML RX1 111 yX1_openness := Or.inl (List.mem_filter.mpr ⟨List.mem_of_getElem? (i := 525) (by decide +kernel), rfl⟩)
theorem ml_X1_115 : m_ML RX1 115 yX3_restAt := Or.inl (List.mem_filter.mpr ⟨List.mem_of_getElem? (i := 529) (by decide +kernel), rfl⟩)
theorem ml_X1_118 : m_ML RX1 118 yX1_restIn := Or.inl (List.mem_filter.mpr ⟨List.mem_of_getElem? (i := 490) (by decide +kernel), rfl⟩)
theorem ml_X3_29 : m_ML RX3 29 yX3_reach := Or.inl (List.mem_filter.mpr ⟨List.mem_of_getElem? (i := 506) (by decide +kernel), rfl⟩)
theorem ml_X3_36 : m_ML RX3 36 yJ9_min_7cf53 := Or.inl (List.mem_filter.mpr ⟨List.mem_of_getElem? (i := 514) (by decide +kernel), rfl⟩)
theorem ml_X3_42 : m_ML RX3 42 yJ9_max_7cf53 := Or.inl (List.mem_filter.mpr ⟨List.mem_of_getElem? (i := 517) (by decide +kernel), rfl⟩)
theorem ml_X5_11 : m_ML RX5 11 yX1_init := Or.inl (List.mem_filter.mpr ⟨List.mem_of_getElem? (i := 273) (by decide +kernel), rfl⟩)
theorem ml_X5_18 : m_ML RX5 18 yX1_become := Or.inl (List.mem_filter.mpr ⟨List.mem_of_getElem? (i := 630) (by decide +kernel), rfl⟩)
theorem ml_X5_22 : m_ML RX5 22 yX1_allHouses := Or.inl (List.mem_filter.mpr ⟨List.mem_of_getElem? (i := 631) (by decide +kernel), rfl⟩)
theorem ml_X5_26 : m_ML RX5 26 yJ6_bitCount_0f7a4 := Or.inl (List.mem_filter.mpr ⟨List.mem_of_getElem? (i := 635) (by decide +kernel), rfl⟩)
theorem ml_X5_36 : m_ML RX5 36 yX1_restIn := Or.inl (List.mem_filter.mpr ⟨List.mem_of_getElem? (i := 641) (by decide +kernel), rfl⟩)
theorem ml_X5_43 : m_ML RX5 43 yX2_cell := Or.inl (List.mem_filter.mpr ⟨List.mem_of_getElem? (i := 659) (by decide +kernel), rfl⟩)
theorem ml_X5_54 : m_ML RX5 54 yX1_standing := Or.inl (List.mem_filter.mpr ⟨List.mem_of_getElem? (i := 660) (by decide +kernel), rfl⟩)
theorem ml_X5_58 : m_ML RX5 58 yX2_stand := Or.inl (List.mem_filter.mpr ⟨List.mem_of_getElem? (i := 661) (by decide +kernel), rfl⟩)
theorem ml_X5_62 : m_ML RX5 62 yX1_timesAt := Or.inl (List.mem_filter.mpr ⟨List.mem_of_getElem? (i := 662) (by decide +kernel), rfl⟩)
theorem ml_X5_65 : m_ML RX5 65 yX5_sulkers := Or.inl (List.mem_filter.mpr ⟨List.mem_of_getElem? (i := 671) (by decide +kernel), rfl⟩)
theorem ml_X5_74 : m_ML RX5 74 yJ6_lowestOneBit_0f7a4 := Or.inl (List.mem_filter.mpr ⟨List.mem_of_getElem? (i := 683) (by decide +kernel), rfl⟩)
theorem ml_X5_81 : m_ML RX5 81 yX8_within := Or.inr ⟨"SaintHill", (List.mem_filter.mpr ⟨List.mem_of_getElem? (i := 695) (by decide +kernel), rfl⟩)⟩
theorem ml_X5_88 : m_ML RX5 88 yX1_putLaw := Or.inl (List.mem_filter.mpr ⟨List.mem_of_getElem? (i := 697) (by decide +kernel), rfl⟩)
theorem ml_X5_91 : m_ML RX5 91 yX5_fits := Or.inl (List.mem_filter.mpr ⟨List.mem_of_getElem? (i := 698) (by decide +kernel), rfl⟩)
theorem ml_X5_103 : m_ML RX5 103 yX8_power := Or.inr ⟨"SaintHill", (List.mem_filter.mpr ⟨List.mem_of_getElem? (i := 718) (by decide +kernel), rfl⟩)⟩
theorem ml_X5_106 : m_ML RX5 106 yX1_forgetGot := Or.inl (List.mem_filter.mpr ⟨List.mem_of_getElem? (i := 734) (by decide +kernel), rfl⟩)
theorem ml_X5_117 : m_ML RX5 117 yX1_letGo := Or.inl (List.mem_filter.mpr ⟨List.mem_of_getElem? (i := 742) (by decide +kernel), rfl⟩)
theorem ml_X6_28 : m_ML RX6 28 yX1_clear := Or.inl (List.mem_filter.mpr ⟨List.mem_of_getElem? (i := 416) (by decide +kernel), rfl⟩)
theorem ml_X6_33 : m_ML RX6 33 yX6_readLaw := Or.inl (List.mem_filter.mpr ⟨List.mem_of_getElem? (i := 420) (by decide +kernel), rfl⟩)
theorem ml_X6_37 : m_ML RX6 37 yX6_readHouse := Or.inl (List.mem_filter.mpr ⟨List.mem_of_getElem? (i := 449) (by decide +kernel), rfl⟩)
theorem ml_X6_44 : m_ML RX6 44 yX6_readSign := Or.inl (List.mem_filter.mpr ⟨List.mem_of_getElem? (i := 424) (by decide +kernel), rfl⟩)
theorem ml_X6_54 : m_ML RX6 54 yX6_readNumber := Or.inl (List.mem_filter.mpr ⟨List.mem_of_getElem? (i := 441) (by decide +kernel), rfl⟩)
theorem ml_X6_58 : m_ML RX6 58 yX1_putLaw := Or.inl (List.mem_filter.mpr ⟨List.mem_of_getElem? (i := 445) (by decide +kernel), rfl⟩)
theorem ml_X6_62 : m_ML RX6 62 yX6_peek := Or.inl (List.mem_filter.mpr ⟨List.mem_of_getElem? (i := 428) (by decide +kernel), rfl⟩)
theorem ml_X6_66 : m_ML RX6 66 yX6_kindOf := Or.inl (List.mem_filter.mpr ⟨List.mem_of_getElem? (i := 453) (by decide +kernel), rfl⟩)
theorem ml_X6_69 : m_ML RX6 69 yX6_fail := Or.inl (List.mem_filter.mpr ⟨List.mem_of_getElem? (i := 433) (by decide +kernel), rfl⟩)
theorem ml_X6_79 : m_ML RX6 79 yX1_standing := Or.inl (List.mem_filter.mpr ⟨List.mem_of_getElem? (i := 456) (by decide +kernel), rfl⟩)
theorem ml_X6_82 : m_ML RX6 82 yX1_addHouse := Or.inl (List.mem_filter.mpr ⟨List.mem_of_getElem? (i := 460) (by decide +kernel), rfl⟩)
theorem ml_X6_86 : m_ML RX6 86 yX8_within := Or.inr ⟨"SaintHill", (List.mem_filter.mpr ⟨List.mem_of_getElem? (i := 432) (by decide +kernel), rfl⟩)⟩
theorem ml_X7_19 : m_ML RX7 19 yX7_bodyFor := Or.inl (List.mem_filter.mpr ⟨List.mem_of_getElem? (i := 779) (by decide +kernel), rfl⟩)
theorem ml_X7_23 : m_ML RX7 23 yX7_give := Or.inl (List.mem_filter.mpr ⟨List.mem_of_getElem? (i := 787) (by decide +kernel), rfl⟩)
theorem ml_X7_32 : m_ML RX7 32 yX8_within := Or.inr ⟨"SaintHill", (List.mem_filter.mpr ⟨List.mem_of_getElem? (i := 782) (by decide +kernel), rfl⟩)⟩
theorem ml_X7_42 : m_ML RX7 42 yX7_leave := Or.inl (List.mem_filter.mpr ⟨List.mem_of_getElem? (i := 790) (by decide +kernel), rfl⟩)
theorem ml_L_9 : m_ML RL 9 yX8_init := Or.inl (List.mem_filter.mpr ⟨List.mem_of_getElem? (i := 76) (by decide +kernel), rfl⟩)
theorem ml_L_12 : m_ML RL 12 yX9_init := Or.inl (List.mem_filter.mpr ⟨List.mem_of_getElem? (i := 813) (by decide +kernel), rfl⟩)
theorem ml_L_13 : m_ML RL 13 yX8_row := Or.inl (List.mem_filter.mpr ⟨List.mem_of_getElem? (i := 352) (by decide +kernel), rfl⟩)
theorem ml_L_17 : m_ML RL 17 yX9_row := Or.inl (List.mem_filter.mpr ⟨List.mem_of_getElem? (i := 891) (by decide +kernel), rfl⟩)
theorem ml_L_18 : m_ML RL 18 yX8_set := Or.inl (List.mem_filter.mpr ⟨List.mem_of_getElem? (i := 376) (by decide +kernel), rfl⟩)
theorem ml_L_21 : m_ML RL 21 yX9_set := Or.inl (List.mem_filter.mpr ⟨List.mem_of_getElem? (i := 913) (by decide +kernel), rfl⟩)
theorem ml_L_22 : m_ML RL 22 yX8_copy := Or.inl (List.mem_filter.mpr ⟨List.mem_of_getElem? (i := 388) (by decide +kernel), rfl⟩)
theorem ml_L_26 : m_ML RL 26 yX9_copy := Or.inl (List.mem_filter.mpr ⟨List.mem_of_getElem? (i := 920) (by decide +kernel), rfl⟩)
theorem ml_L_27 : m_ML RL 27 yX8_drop := Or.inl (List.mem_filter.mpr ⟨List.mem_of_getElem? (i := 395) (by decide +kernel), rfl⟩)
theorem ml_L_31 : m_ML RL 31 yX9_drop := Or.inl (List.mem_filter.mpr ⟨List.mem_of_getElem? (i := 928) (by decide +kernel), rfl⟩)
theorem ml_L_32 : m_ML RL 32 yX8_feed := Or.inl (List.mem_filter.mpr ⟨List.mem_of_getElem? (i := 399) (by decide +kernel), rfl⟩)
theorem ml_L_35 : m_ML RL 35 yX9_feed := Or.inl (List.mem_filter.mpr ⟨List.mem_of_getElem? (i := 932) (by decide +kernel), rfl⟩)
theorem ml_L_36 : m_ML RL 36 yX8_hill := Or.inl (List.mem_filter.mpr ⟨List.mem_of_getElem? (i := 408) (by decide +kernel), rfl⟩)
theorem ml_L_40 : m_ML RL 40 yX9_hill := Or.inl (List.mem_filter.mpr ⟨List.mem_of_getElem? (i := 938) (by decide +kernel), rfl⟩)
theorem ml_L_41 : m_ML RL 41 yX8_fault := Or.inl (List.mem_filter.mpr ⟨List.mem_of_getElem? (i := 477) (by decide +kernel), rfl⟩)
theorem ml_L_44 : m_ML RL 44 yX9_fault := Or.inl (List.mem_filter.mpr ⟨List.mem_of_getElem? (i := 993) (by decide +kernel), rfl⟩)
theorem ml_L_45 : m_ML RL 45 yX8_years := Or.inl (List.mem_filter.mpr ⟨List.mem_of_getElem? (i := 481) (by decide +kernel), rfl⟩)
theorem ml_L_48 : m_ML RL 48 yX9_years := Or.inl (List.mem_filter.mpr ⟨List.mem_of_getElem? (i := 1002) (by decide +kernel), rfl⟩)
theorem ml_L_49 : m_ML RL 49 yX8_door := Or.inl (List.mem_filter.mpr ⟨List.mem_of_getElem? (i := 547) (by decide +kernel), rfl⟩)
theorem ml_L_53 : m_ML RL 53 yX9_door := Or.inl (List.mem_filter.mpr ⟨List.mem_of_getElem? (i := 1045) (by decide +kernel), rfl⟩)
theorem ml_L_54 : m_ML RL 54 yX8_build := Or.inl (List.mem_filter.mpr ⟨List.mem_of_getElem? (i := 556) (by decide +kernel), rfl⟩)
theorem ml_L_57 : m_ML RL 57 yX9_build := Or.inl (List.mem_filter.mpr ⟨List.mem_of_getElem? (i := 1053) (by decide +kernel), rfl⟩)
theorem ml_L_58 : m_ML RL 58 yX8_speed := Or.inl (List.mem_filter.mpr ⟨List.mem_of_getElem? (i := 570) (by decide +kernel), rfl⟩)
theorem ml_L_61 : m_ML RL 61 yX9_speed := Or.inl (List.mem_filter.mpr ⟨List.mem_of_getElem? (i := 1062) (by decide +kernel), rfl⟩)
theorem ml_L_62 : m_ML RL 62 yX8_undo := Or.inl (List.mem_filter.mpr ⟨List.mem_of_getElem? (i := 574) (by decide +kernel), rfl⟩)
theorem ml_L_65 : m_ML RL 65 yX9_undo := Or.inl (List.mem_filter.mpr ⟨List.mem_of_getElem? (i := 997) (by decide +kernel), rfl⟩)
theorem ml_L_66 : m_ML RL 66 yX8_house := Or.inl (List.mem_filter.mpr ⟨List.mem_of_getElem? (i := 584) (by decide +kernel), rfl⟩)
theorem ml_L_69 : m_ML RL 69 yX9_house := Or.inl (List.mem_filter.mpr ⟨List.mem_of_getElem? (i := 1067) (by decide +kernel), rfl⟩)
theorem ml_L_70 : m_ML RL 70 yX8_at := Or.inl (List.mem_filter.mpr ⟨List.mem_of_getElem? (i := 588) (by decide +kernel), rfl⟩)
theorem ml_L_73 : m_ML RL 73 yX9_at := Or.inl (List.mem_filter.mpr ⟨List.mem_of_getElem? (i := 1071) (by decide +kernel), rfl⟩)
theorem ml_L_74 : m_ML RL 74 yX8_rests := Or.inl (List.mem_filter.mpr ⟨List.mem_of_getElem? (i := 592) (by decide +kernel), rfl⟩)
theorem ml_L_77 : m_ML RL 77 yX9_rests := Or.inl (List.mem_filter.mpr ⟨List.mem_of_getElem? (i := 1075) (by decide +kernel), rfl⟩)
theorem ml_L_78 : m_ML RL 78 yX8_line := Or.inl (List.mem_filter.mpr ⟨List.mem_of_getElem? (i := 597) (by decide +kernel), rfl⟩)
theorem ml_L_81 : m_ML RL 81 yX9_line := Or.inl (List.mem_filter.mpr ⟨List.mem_of_getElem? (i := 1092) (by decide +kernel), rfl⟩)
theorem ml_L_82 : m_ML RL 82 yX8_left := Or.inl (List.mem_filter.mpr ⟨List.mem_of_getElem? (i := 601) (by decide +kernel), rfl⟩)
theorem ml_L_85 : m_ML RL 85 yX9_left := Or.inl (List.mem_filter.mpr ⟨List.mem_of_getElem? (i := 1096) (by decide +kernel), rfl⟩)
theorem ml_L_86 : m_ML RL 86 yX8_next := Or.inl (List.mem_filter.mpr ⟨List.mem_of_getElem? (i := 606) (by decide +kernel), rfl⟩)
theorem ml_L_89 : m_ML RL 89 yX9_next := Or.inl (List.mem_filter.mpr ⟨List.mem_of_getElem? (i := 1100) (by decide +kernel), rfl⟩)
theorem ml_L_90 : m_ML RL 90 yX8_often := Or.inl (List.mem_filter.mpr ⟨List.mem_of_getElem? (i := 614) (by decide +kernel), rfl⟩)
theorem ml_L_93 : m_ML RL 93 yX9_often := Or.inl (List.mem_filter.mpr ⟨List.mem_of_getElem? (i := 1104) (by decide +kernel), rfl⟩)
theorem ml_L_94 : m_ML RL 94 yX8_aim := Or.inl (List.mem_filter.mpr ⟨List.mem_of_getElem? (i := 622) (by decide +kernel), rfl⟩)
theorem ml_L_97 : m_ML RL 97 yX9_aim := Or.inl (List.mem_filter.mpr ⟨List.mem_of_getElem? (i := 1112) (by decide +kernel), rfl⟩)
theorem ml_L_98 : m_ML RL 98 yX8_shun := Or.inl (List.mem_filter.mpr ⟨List.mem_of_getElem? (i := 646) (by decide +kernel), rfl⟩)
theorem ml_L_101 : m_ML RL 101 yX9_shun := Or.inl (List.mem_filter.mpr ⟨List.mem_of_getElem? (i := 1127) (by decide +kernel), rfl⟩)
theorem ml_L_102 : m_ML RL 102 yX8_site := Or.inl (List.mem_filter.mpr ⟨List.mem_of_getElem? (i := 651) (by decide +kernel), rfl⟩)
theorem ml_L_105 : m_ML RL 105 yX9_site := Or.inl (List.mem_filter.mpr ⟨List.mem_of_getElem? (i := 1131) (by decide +kernel), rfl⟩)
theorem ml_L_106 : m_ML RL 106 yX8_sulks := Or.inl (List.mem_filter.mpr ⟨List.mem_of_getElem? (i := 663) (by decide +kernel), rfl⟩)
theorem ml_L_109 : m_ML RL 109 yX9_sulks := Or.inl (List.mem_filter.mpr ⟨List.mem_of_getElem? (i := 1136) (by decide +kernel), rfl⟩)
theorem ml_L_110 : m_ML RL 110 yX8_peace := Or.inl (List.mem_filter.mpr ⟨List.mem_of_getElem? (i := 675) (by decide +kernel), rfl⟩)
theorem ml_L_113 : m_ML RL 113 yX9_peace := Or.inl (List.mem_filter.mpr ⟨List.mem_of_getElem? (i := 1144) (by decide +kernel), rfl⟩)
theorem ml_L_114 : m_ML RL 114 yX8_rolls := Or.inl (List.mem_filter.mpr ⟨List.mem_of_getElem? (i := 686) (by decide +kernel), rfl⟩)
theorem ml_L_118 : m_ML RL 118 yX9_rolls := Or.inl (List.mem_filter.mpr ⟨List.mem_of_getElem? (i := 1148) (by decide +kernel), rfl⟩)
theorem ml_L_119 : m_ML RL 119 yX8_sorts := Or.inl (List.mem_filter.mpr ⟨List.mem_of_getElem? (i := 702) (by decide +kernel), rfl⟩)
theorem ml_L_122 : m_ML RL 122 yX9_sorts := Or.inl (List.mem_filter.mpr ⟨List.mem_of_getElem? (i := 1162) (by decide +kernel), rfl⟩)
theorem ml_L_123 : m_ML RL 123 yX8_play := Or.inl (List.mem_filter.mpr ⟨List.mem_of_getElem? (i := 710) (by decide +kernel), rfl⟩)
theorem ml_L_126 : m_ML RL 126 yX9_play := Or.inl (List.mem_filter.mpr ⟨List.mem_of_getElem? (i := 1166) (by decide +kernel), rfl⟩)
theorem ml_L_127 : m_ML RL 127 yX8_drawn := Or.inl (List.mem_filter.mpr ⟨List.mem_of_getElem? (i := 725) (by decide +kernel), rfl⟩)
theorem ml_L_130 : m_ML RL 130 yX9_drawn := Or.inl (List.mem_filter.mpr ⟨List.mem_of_getElem? (i := 1171) (by decide +kernel), rfl⟩)
theorem ml_L_131 : m_ML RL 131 yX8_image := Or.inl (List.mem_filter.mpr ⟨List.mem_of_getElem? (i := 751) (by decide +kernel), rfl⟩)
theorem ml_L_134 : m_ML RL 134 yX9_image := Or.inl (List.mem_filter.mpr ⟨List.mem_of_getElem? (i := 1178) (by decide +kernel), rfl⟩)
theorem ml_L_135 : m_ML RL 135 yX8_restore := Or.inl (List.mem_filter.mpr ⟨List.mem_of_getElem? (i := 755) (by decide +kernel), rfl⟩)
theorem ml_L_138 : m_ML RL 138 yX9_restore := Or.inl (List.mem_filter.mpr ⟨List.mem_of_getElem? (i := 1182) (by decide +kernel), rfl⟩)
theorem ml_L_139 : m_ML RL 139 yX8_kind := Or.inl (List.mem_filter.mpr ⟨List.mem_of_getElem? (i := 759) (by decide +kernel), rfl⟩)
theorem ml_L_142 : m_ML RL 142 yX9_kind := Or.inl (List.mem_filter.mpr ⟨List.mem_of_getElem? (i := 1186) (by decide +kernel), rfl⟩)
theorem ml_L_143 : m_ML RL 143 yX8_as := Or.inl (List.mem_filter.mpr ⟨List.mem_of_getElem? (i := 763) (by decide +kernel), rfl⟩)
theorem ml_L_146 : m_ML RL 146 yX9_as := Or.inl (List.mem_filter.mpr ⟨List.mem_of_getElem? (i := 1190) (by decide +kernel), rfl⟩)
theorem ml_L_147 : m_ML RL 147 yX8_ask := Or.inl (List.mem_filter.mpr ⟨List.mem_of_getElem? (i := 772) (by decide +kernel), rfl⟩)
theorem ml_L_150 : m_ML RL 150 yX9_ask := Or.inl (List.mem_filter.mpr ⟨List.mem_of_getElem? (i := 1199) (by decide +kernel), rfl⟩)
theorem ml_L_151 : m_ML RL 151 yX8_trace := Or.inl (List.mem_filter.mpr ⟨List.mem_of_getElem? (i := 794) (by decide +kernel), rfl⟩)
theorem ml_L_154 : m_ML RL 154 yX9_trace := Or.inl (List.mem_filter.mpr ⟨List.mem_of_getElem? (i := 1239) (by decide +kernel), rfl⟩)
theorem ml_L_155 : m_ML RL 155 yX8_count := Or.inl (List.mem_filter.mpr ⟨List.mem_of_getElem? (i := 798) (by decide +kernel), rfl⟩)
theorem ml_L_158 : m_ML RL 158 yX9_count := Or.inl (List.mem_filter.mpr ⟨List.mem_of_getElem? (i := 1243) (by decide +kernel), rfl⟩)
theorem ml_L_159 : m_ML RL 159 yX8_status := Or.inl (List.mem_filter.mpr ⟨List.mem_of_getElem? (i := 807) (by decide +kernel), rfl⟩)
theorem ml_L_162 : m_ML RL 162 yX9_status := Or.inl (List.mem_filter.mpr ⟨List.mem_of_getElem? (i := 1251) (by decide +kernel), rfl⟩)
theorem ml_X9_60 : m_ML RX9 60 yX9_in := Or.inl (List.mem_filter.mpr ⟨List.mem_of_getElem? (i := 899) (by decide +kernel), rfl⟩)
theorem ml_X9_64 : m_ML RX9 64 yX9_isRow := Or.inl (List.mem_filter.mpr ⟨List.mem_of_getElem? (i := 895) (by decide +kernel), rfl⟩)
theorem ml_X9_71 : m_ML RX9 71 yX9_find := Or.inl (List.mem_filter.mpr ⟨List.mem_of_getElem? (i := 904) (by decide +kernel), rfl⟩)
theorem ml_X9_75 : m_ML RX9 75 yX9_well := Or.inl (List.mem_filter.mpr ⟨List.mem_of_getElem? (i := 909) (by decide +kernel), rfl⟩)
theorem ml_X9_78 : m_ML RX9 78 yX9_narrow := Or.inl (List.mem_filter.mpr ⟨List.mem_of_getElem? (i := 917) (by decide +kernel), rfl⟩)
theorem ml_X9_82 : m_ML RX9 82 yX9_isSpan := Or.inl (List.mem_filter.mpr ⟨List.mem_of_getElem? (i := 924) (by decide +kernel), rfl⟩)
theorem ml_X9_102 : m_ML RX9 102 yX9_isLetter := Or.inl (List.mem_filter.mpr ⟨List.mem_of_getElem? (i := 954) (by decide +kernel), rfl⟩)
theorem ml_X9_105 : m_ML RX9 105 yX9_refuse := Or.inl (List.mem_filter.mpr ⟨List.mem_of_getElem? (i := 958) (by decide +kernel), rfl⟩)
theorem ml_X9_108 : m_ML RX9 108 yX9_isFigure := Or.inl (List.mem_filter.mpr ⟨List.mem_of_getElem? (i := 966) (by decide +kernel), rfl⟩)
theorem ml_X9_114 : m_ML RX9 114 yX9_sign := Or.inl (List.mem_filter.mpr ⟨List.mem_of_getElem? (i := 950) (by decide +kernel), rfl⟩)
theorem ml_X9_117 : m_ML RX9 117 yX9_readsNumber := Or.inl (List.mem_filter.mpr ⟨List.mem_of_getElem? (i := 962) (by decide +kernel), rfl⟩)
theorem ml_X9_121 : m_ML RX9 121 yX9_kindOfLetter := Or.inl (List.mem_filter.mpr ⟨List.mem_of_getElem? (i := 976) (by decide +kernel), rfl⟩)
theorem ml_X9_124 : m_ML RX9 124 yX9_houseAt := Or.inl (List.mem_filter.mpr ⟨List.mem_of_getElem? (i := 983) (by decide +kernel), rfl⟩)
theorem ml_X9_129 : m_ML RX9 129 yX9_readsLaw := Or.inl (List.mem_filter.mpr ⟨List.mem_of_getElem? (i := 946) (by decide +kernel), rfl⟩)
theorem ml_X9_133 : m_ML RX9 133 yX9_isSort := Or.inl (List.mem_filter.mpr ⟨List.mem_of_getElem? (i := 972) (by decide +kernel), rfl⟩)
theorem ml_X9_136 : m_ML RX9 136 yX9_readsHouse := Or.inl (List.mem_filter.mpr ⟨List.mem_of_getElem? (i := 979) (by decide +kernel), rfl⟩)
theorem ml_X9_139 : m_ML RX9 139 yX9_reads := Or.inl (List.mem_filter.mpr ⟨List.mem_of_getElem? (i := 942) (by decide +kernel), rfl⟩)
theorem ml_X9_146 : m_ML RX9 146 yX9_copyTown := Or.inl (List.mem_filter.mpr ⟨List.mem_of_getElem? (i := 989) (by decide +kernel), rfl⟩)
theorem ml_X9_158 : m_ML RX9 158 yX9_has := Or.inl (List.mem_filter.mpr ⟨List.mem_of_getElem? (i := 1034) (by decide +kernel), rfl⟩)
theorem ml_X9_164 : m_ML RX9 164 yX9_kept := Or.inl (List.mem_filter.mpr ⟨List.mem_of_getElem? (i := 1027) (by decide +kernel), rfl⟩)
theorem ml_X9_167 : m_ML RX9 167 yX9_holdsIt := Or.inl (List.mem_filter.mpr ⟨List.mem_of_getElem? (i := 1030) (by decide +kernel), rfl⟩)
theorem ml_X9_170 : m_ML RX9 170 yX9_slows := Or.inl (List.mem_filter.mpr ⟨List.mem_of_getElem? (i := 1037) (by decide +kernel), rfl⟩)
theorem ml_X9_173 : m_ML RX9 173 yX9_turns := Or.inl (List.mem_filter.mpr ⟨List.mem_of_getElem? (i := 1041) (by decide +kernel), rfl⟩)
theorem ml_X9_176 : m_ML RX9 176 yX9_startOf := Or.inl (List.mem_filter.mpr ⟨List.mem_of_getElem? (i := 1019) (by decide +kernel), rfl⟩)
theorem ml_X9_179 : m_ML RX9 179 yX9_goes := Or.inl (List.mem_filter.mpr ⟨List.mem_of_getElem? (i := 1023) (by decide +kernel), rfl⟩)
theorem ml_X9_182 : m_ML RX9 182 yX9_rollsNow := Or.inl (List.mem_filter.mpr ⟨List.mem_of_getElem? (i := 1015) (by decide +kernel), rfl⟩)
theorem ml_X9_187 : m_ML RX9 187 yX9_keepPast := Or.inl (List.mem_filter.mpr ⟨List.mem_of_getElem? (i := 1007) (by decide +kernel), rfl⟩)
theorem ml_X9_190 : m_ML RX9 190 yX9_pass := Or.inl (List.mem_filter.mpr ⟨List.mem_of_getElem? (i := 1011) (by decide +kernel), rfl⟩)
theorem ml_X9_193 : m_ML RX9 193 yX9_isHouse := Or.inl (List.mem_filter.mpr ⟨List.mem_of_getElem? (i := 1049) (by decide +kernel), rfl⟩)
theorem ml_X9_198 : m_ML RX9 198 yX9_isPlace := Or.inl (List.mem_filter.mpr ⟨List.mem_of_getElem? (i := 1057) (by decide +kernel), rfl⟩)
theorem ml_X9_205 : m_ML RX9 205 yX9_noYears := Or.inl (List.mem_filter.mpr ⟨List.mem_of_getElem? (i := 1079) (by decide +kernel), rfl⟩)
theorem ml_X9_208 : m_ML RX9 208 yX9_layTried := Or.inl (List.mem_filter.mpr ⟨List.mem_of_getElem? (i := 1084) (by decide +kernel), rfl⟩)
theorem ml_X9_211 : m_ML RX9 211 yX9_restsIn := Or.inl (List.mem_filter.mpr ⟨List.mem_of_getElem? (i := 1088) (by decide +kernel), rfl⟩)
theorem ml_X9_214 : m_ML RX9 214 yX9_oftenTried := Or.inl (List.mem_filter.mpr ⟨List.mem_of_getElem? (i := 1108) (by decide +kernel), rfl⟩)
theorem ml_X9_217 : m_ML RX9 217 yX9_restsOtherwise := Or.inl (List.mem_filter.mpr ⟨List.mem_of_getElem? (i := 1120) (by decide +kernel), rfl⟩)
theorem ml_X9_220 : m_ML RX9 220 yX9_bits := Or.inl (List.mem_filter.mpr ⟨List.mem_of_getElem? (i := 1124) (by decide +kernel), rfl⟩)
theorem ml_X9_223 : m_ML RX9 223 yX9_fewest := Or.inl (List.mem_filter.mpr ⟨List.mem_of_getElem? (i := 1116) (by decide +kernel), rfl⟩)
theorem ml_X9_229 : m_ML RX9 229 yX9_sulksTried := Or.inl (List.mem_filter.mpr ⟨List.mem_of_getElem? (i := 1140) (by decide +kernel), rfl⟩)
theorem ml_X9_237 : m_ML RX9 237 yX9_noItems := Or.inl (List.mem_filter.mpr ⟨List.mem_of_getElem? (i := 1154) (by decide +kernel), rfl⟩)
theorem ml_X9_240 : m_ML RX9 240 yX9_isSo := Or.inl (List.mem_filter.mpr ⟨List.mem_of_getElem? (i := 1158) (by decide +kernel), rfl⟩)
theorem ml_X9_253 : m_ML RX9 253 yX9_isOf := Or.inl (List.mem_filter.mpr ⟨List.mem_of_getElem? (i := 1195) (by decide +kernel), rfl⟩)
theorem ml_X9_259 : m_ML RX9 259 yX9_begin := Or.inl (List.mem_filter.mpr ⟨List.mem_of_getElem? (i := 1207) (by decide +kernel), rfl⟩)
theorem ml_X9_263 : m_ML RX9 263 yX9_lentSize := Or.inl (List.mem_filter.mpr ⟨List.mem_of_getElem? (i := 1215) (by decide +kernel), rfl⟩)
theorem ml_X9_266 : m_ML RX9 266 yX9_mark := Or.inl (List.mem_filter.mpr ⟨List.mem_of_getElem? (i := 1219) (by decide +kernel), rfl⟩)
theorem ml_X9_269 : m_ML RX9 269 yX9_doorSize := Or.inl (List.mem_filter.mpr ⟨List.mem_of_getElem? (i := 1211) (by decide +kernel), rfl⟩)
theorem ml_X9_272 : m_ML RX9 272 yX9_wallSize := Or.inl (List.mem_filter.mpr ⟨List.mem_of_getElem? (i := 1231) (by decide +kernel), rfl⟩)
theorem ml_X9_275 : m_ML RX9 275 yX9_lentMark := Or.inl (List.mem_filter.mpr ⟨List.mem_of_getElem? (i := 1227) (by decide +kernel), rfl⟩)
theorem ml_X9_278 : m_ML RX9 278 yX9_doorMark := Or.inl (List.mem_filter.mpr ⟨List.mem_of_getElem? (i := 1223) (by decide +kernel), rfl⟩)
theorem ml_X9_281 : m_ML RX9 281 yX9_sizeOf := Or.inl (List.mem_filter.mpr ⟨List.mem_of_getElem? (i := 1203) (by decide +kernel), rfl⟩)
theorem ml_X9_284 : m_ML RX9 284 yX9_wallMark := Or.inl (List.mem_filter.mpr ⟨List.mem_of_getElem? (i := 1235) (by decide +kernel), rfl⟩)
theorem ml_X9_287 : m_ML RX9 287 yX9_gotByAll := Or.inl (List.mem_filter.mpr ⟨List.mem_of_getElem? (i := 1247) (by decide +kernel), rfl⟩)
theorem mo_X8_aim : m_MO yX8_aim cX8_aim 4 (some .int) 3 false := ⟨by decide +kernel, (List.mem_filter.mpr ⟨List.mem_of_getElem? (i := 625) (by decide +kernel), rfl⟩), (List.mem_filter.mpr ⟨List.mem_of_getElem? (i := 61) (by decide +kernel), rfl⟩), ⟨by decide +kernel, by decide +kernel, by decide +kernel⟩, ⟨(List.mem_filter.mpr ⟨List.mem_of_getElem? (i := 623) (by decide +kernel), rfl⟩), (List.mem_filter.mpr ⟨List.mem_of_getElem? (i := 624) (by decide +kernel), rfl⟩)⟩, by decide⟩
theorem mo_X8_as : m_MO yX8_as cX8_as 3 (some .int) 2 false := ⟨by decide +kernel, (List.mem_filter.mpr ⟨List.mem_of_getElem? (i := 766) (by decide +kernel), rfl⟩), (List.mem_filter.mpr ⟨List.mem_of_getElem? (i := 61) (by decide +kernel), rfl⟩), ⟨by decide +kernel, by decide +kernel, by decide +kernel⟩, ⟨(List.mem_filter.mpr ⟨List.mem_of_getElem? (i := 764) (by decide +kernel), rfl⟩), (List.mem_filter.mpr ⟨List.mem_of_getElem? (i := 765) (by decide +kernel), rfl⟩)⟩, by decide⟩
theorem mo_X8_ask : m_MO yX8_ask cX8_ask 3 (some .int) 2 false := ⟨by decide +kernel, (List.mem_filter.mpr ⟨List.mem_of_getElem? (i := 775) (by decide +kernel), rfl⟩), (List.mem_filter.mpr ⟨List.mem_of_getElem? (i := 61) (by decide +kernel), rfl⟩), ⟨by decide +kernel, by decide +kernel, by decide +kernel⟩, ⟨(List.mem_filter.mpr ⟨List.mem_of_getElem? (i := 773) (by decide +kernel), rfl⟩), (List.mem_filter.mpr ⟨List.mem_of_getElem? (i := 774) (by decide +kernel), rfl⟩)⟩, by decide⟩
theorem mo_X8_at : m_MO yX8_at cX8_at 3 (some .int) 2 false := ⟨by decide +kernel, (List.mem_filter.mpr ⟨List.mem_of_getElem? (i := 591) (by decide +kernel), rfl⟩), (List.mem_filter.mpr ⟨List.mem_of_getElem? (i := 61) (by decide +kernel), rfl⟩), ⟨by decide +kernel, by decide +kernel, by decide +kernel⟩, ⟨(List.mem_filter.mpr ⟨List.mem_of_getElem? (i := 589) (by decide +kernel), rfl⟩), (List.mem_filter.mpr ⟨List.mem_of_getElem? (i := 590) (by decide +kernel), rfl⟩)⟩, by decide⟩
theorem mo_X8_build : m_MO yX8_build cX8_build 5 (some .int) 3 false := ⟨by decide +kernel, (List.mem_filter.mpr ⟨List.mem_of_getElem? (i := 559) (by decide +kernel), rfl⟩), (List.mem_filter.mpr ⟨List.mem_of_getElem? (i := 61) (by decide +kernel), rfl⟩), ⟨by decide +kernel, by decide +kernel, by decide +kernel⟩, ⟨(List.mem_filter.mpr ⟨List.mem_of_getElem? (i := 557) (by decide +kernel), rfl⟩), (List.mem_filter.mpr ⟨List.mem_of_getElem? (i := 558) (by decide +kernel), rfl⟩)⟩, by decide⟩
theorem mo_X8_commonDivisor : m_MO yX8_commonDivisor cX8_commonDivisor 6 (some .int) 2 true := ⟨by decide +kernel, (List.mem_filter.mpr ⟨List.mem_of_getElem? (i := 724) (by decide +kernel), rfl⟩), (List.mem_filter.mpr ⟨List.mem_of_getElem? (i := 61) (by decide +kernel), rfl⟩), ⟨by decide +kernel, by decide +kernel, by decide +kernel⟩, (List.mem_filter.mpr ⟨List.mem_of_getElem? (i := 723) (by decide +kernel), rfl⟩), by decide⟩
theorem mo_X8_copy : m_MO yX8_copy cX8_copy 8 (some .int) 5 false := ⟨by decide +kernel, (List.mem_filter.mpr ⟨List.mem_of_getElem? (i := 391) (by decide +kernel), rfl⟩), (List.mem_filter.mpr ⟨List.mem_of_getElem? (i := 61) (by decide +kernel), rfl⟩), ⟨by decide +kernel, by decide +kernel, by decide +kernel⟩, ⟨(List.mem_filter.mpr ⟨List.mem_of_getElem? (i := 389) (by decide +kernel), rfl⟩), (List.mem_filter.mpr ⟨List.mem_of_getElem? (i := 390) (by decide +kernel), rfl⟩)⟩, by decide⟩
theorem mo_X8_count : m_MO yX8_count cX8_count 2 (some .int) 1 false := ⟨by decide +kernel, (List.mem_filter.mpr ⟨List.mem_of_getElem? (i := 801) (by decide +kernel), rfl⟩), (List.mem_filter.mpr ⟨List.mem_of_getElem? (i := 61) (by decide +kernel), rfl⟩), ⟨by decide +kernel, by decide +kernel, by decide +kernel⟩, ⟨(List.mem_filter.mpr ⟨List.mem_of_getElem? (i := 799) (by decide +kernel), rfl⟩), (List.mem_filter.mpr ⟨List.mem_of_getElem? (i := 800) (by decide +kernel), rfl⟩)⟩, by decide⟩
theorem mo_X8_door : m_MO yX8_door cX8_door 3 (some .int) 2 false := ⟨by decide +kernel, (List.mem_filter.mpr ⟨List.mem_of_getElem? (i := 550) (by decide +kernel), rfl⟩), (List.mem_filter.mpr ⟨List.mem_of_getElem? (i := 61) (by decide +kernel), rfl⟩), ⟨by decide +kernel, by decide +kernel, by decide +kernel⟩, ⟨(List.mem_filter.mpr ⟨List.mem_of_getElem? (i := 548) (by decide +kernel), rfl⟩), (List.mem_filter.mpr ⟨List.mem_of_getElem? (i := 549) (by decide +kernel), rfl⟩)⟩, by decide⟩
theorem mo_X8_drawn : m_MO yX8_drawn cX8_drawn 4 (some .int) 3 false := ⟨by decide +kernel, (List.mem_filter.mpr ⟨List.mem_of_getElem? (i := 728) (by decide +kernel), rfl⟩), (List.mem_filter.mpr ⟨List.mem_of_getElem? (i := 61) (by decide +kernel), rfl⟩), ⟨by decide +kernel, by decide +kernel, by decide +kernel⟩, ⟨(List.mem_filter.mpr ⟨List.mem_of_getElem? (i := 726) (by decide +kernel), rfl⟩), (List.mem_filter.mpr ⟨List.mem_of_getElem? (i := 727) (by decide +kernel), rfl⟩)⟩, by decide⟩
theorem mo_X8_drop : m_MO yX8_drop cX8_drop 3 (some .int) 1 false := ⟨by decide +kernel, (List.mem_filter.mpr ⟨List.mem_of_getElem? (i := 398) (by decide +kernel), rfl⟩), (List.mem_filter.mpr ⟨List.mem_of_getElem? (i := 61) (by decide +kernel), rfl⟩), ⟨by decide +kernel, by decide +kernel, by decide +kernel⟩, ⟨(List.mem_filter.mpr ⟨List.mem_of_getElem? (i := 396) (by decide +kernel), rfl⟩), (List.mem_filter.mpr ⟨List.mem_of_getElem? (i := 397) (by decide +kernel), rfl⟩)⟩, by decide⟩
theorem mo_X8_fault : m_MO yX8_fault cX8_fault 1 (some .int) 0 false := ⟨by decide +kernel, (List.mem_filter.mpr ⟨List.mem_of_getElem? (i := 480) (by decide +kernel), rfl⟩), (List.mem_filter.mpr ⟨List.mem_of_getElem? (i := 61) (by decide +kernel), rfl⟩), ⟨by decide +kernel, by decide +kernel, by decide +kernel⟩, ⟨(List.mem_filter.mpr ⟨List.mem_of_getElem? (i := 478) (by decide +kernel), rfl⟩), (List.mem_filter.mpr ⟨List.mem_of_getElem? (i := 479) (by decide +kernel), rfl⟩)⟩, by decide⟩
theorem mo_X8_feed : m_MO yX8_feed cX8_feed 2 (some .int) 1 false := ⟨by decide +kernel, (List.mem_filter.mpr ⟨List.mem_of_getElem? (i := 402) (by decide +kernel), rfl⟩), (List.mem_filter.mpr ⟨List.mem_of_getElem? (i := 61) (by decide +kernel), rfl⟩), ⟨by decide +kernel, by decide +kernel, by decide +kernel⟩, ⟨(List.mem_filter.mpr ⟨List.mem_of_getElem? (i := 400) (by decide +kernel), rfl⟩), (List.mem_filter.mpr ⟨List.mem_of_getElem? (i := 401) (by decide +kernel), rfl⟩)⟩, by decide⟩
theorem mo_X8_fine : m_MO yX8_fine cX8_fine 2 (some .int) 1 false := ⟨by decide +kernel, (List.mem_filter.mpr ⟨List.mem_of_getElem? (i := 375) (by decide +kernel), rfl⟩), (List.mem_filter.mpr ⟨List.mem_of_getElem? (i := 61) (by decide +kernel), rfl⟩), ⟨by decide +kernel, by decide +kernel, by decide +kernel⟩, ⟨(List.mem_filter.mpr ⟨List.mem_of_getElem? (i := 374) (by decide +kernel), rfl⟩), (List.mem_filter.mpr ⟨List.mem_of_getElem? (i := 1) (by decide +kernel), rfl⟩)⟩, by decide⟩
theorem mo_X8_found : m_MO yX8_found cX8_found 2 (some .int) 1 false := ⟨by decide +kernel, (List.mem_filter.mpr ⟨List.mem_of_getElem? (i := 366) (by decide +kernel), rfl⟩), (List.mem_filter.mpr ⟨List.mem_of_getElem? (i := 61) (by decide +kernel), rfl⟩), ⟨by decide +kernel, by decide +kernel, by decide +kernel⟩, ⟨(List.mem_filter.mpr ⟨List.mem_of_getElem? (i := 365) (by decide +kernel), rfl⟩), (List.mem_filter.mpr ⟨List.mem_of_getElem? (i := 0) (by decide +kernel), rfl⟩)⟩, by decide⟩
theorem mo_X8_hill : m_MO yX8_hill cX8_hill 2 (some .int) 0 false := ⟨by decide +kernel, (List.mem_filter.mpr ⟨List.mem_of_getElem? (i := 411) (by decide +kernel), rfl⟩), (List.mem_filter.mpr ⟨List.mem_of_getElem? (i := 61) (by decide +kernel), rfl⟩), ⟨by decide +kernel, by decide +kernel, by decide +kernel⟩, ⟨(List.mem_filter.mpr ⟨List.mem_of_getElem? (i := 409) (by decide +kernel), rfl⟩), (List.mem_filter.mpr ⟨List.mem_of_getElem? (i := 410) (by decide +kernel), rfl⟩)⟩, by decide⟩
theorem mo_X8_house : m_MO yX8_house cX8_house 4 (some .int) 2 false := ⟨by decide +kernel, (List.mem_filter.mpr ⟨List.mem_of_getElem? (i := 587) (by decide +kernel), rfl⟩), (List.mem_filter.mpr ⟨List.mem_of_getElem? (i := 61) (by decide +kernel), rfl⟩), ⟨by decide +kernel, by decide +kernel, by decide +kernel⟩, ⟨(List.mem_filter.mpr ⟨List.mem_of_getElem? (i := 585) (by decide +kernel), rfl⟩), (List.mem_filter.mpr ⟨List.mem_of_getElem? (i := 586) (by decide +kernel), rfl⟩)⟩, by decide⟩
theorem mo_X8_image : m_MO yX8_image cX8_image 2 (some .int) 1 false := ⟨by decide +kernel, (List.mem_filter.mpr ⟨List.mem_of_getElem? (i := 754) (by decide +kernel), rfl⟩), (List.mem_filter.mpr ⟨List.mem_of_getElem? (i := 61) (by decide +kernel), rfl⟩), ⟨by decide +kernel, by decide +kernel, by decide +kernel⟩, ⟨(List.mem_filter.mpr ⟨List.mem_of_getElem? (i := 752) (by decide +kernel), rfl⟩), (List.mem_filter.mpr ⟨List.mem_of_getElem? (i := 753) (by decide +kernel), rfl⟩)⟩, by decide⟩
theorem mo_X8_isCell : m_MO yX8_isCell cX8_isCell 3 (some .boolean) 2 false := ⟨by decide +kernel, (List.mem_filter.mpr ⟨List.mem_of_getElem? (i := 563) (by decide +kernel), rfl⟩), (List.mem_filter.mpr ⟨List.mem_of_getElem? (i := 61) (by decide +kernel), rfl⟩), ⟨by decide +kernel, by decide +kernel, by decide +kernel⟩, ⟨(List.mem_filter.mpr ⟨List.mem_of_getElem? (i := 562) (by decide +kernel), rfl⟩), (List.mem_filter.mpr ⟨List.mem_of_getElem? (i := 11) (by decide +kernel), rfl⟩)⟩, by decide⟩
theorem mo_X8_isHouse : m_MO yX8_isHouse cX8_isHouse 2 (some .boolean) 1 false := ⟨by decide +kernel, (List.mem_filter.mpr ⟨List.mem_of_getElem? (i := 554) (by decide +kernel), rfl⟩), (List.mem_filter.mpr ⟨List.mem_of_getElem? (i := 61) (by decide +kernel), rfl⟩), ⟨by decide +kernel, by decide +kernel, by decide +kernel⟩, ⟨(List.mem_filter.mpr ⟨List.mem_of_getElem? (i := 553) (by decide +kernel), rfl⟩), (List.mem_filter.mpr ⟨List.mem_of_getElem? (i := 10) (by decide +kernel), rfl⟩)⟩, by decide⟩
theorem mo_X8_isOfKind : m_MO yX8_isOfKind cX8_isOfKind 4 (some .boolean) 2 true := ⟨by decide +kernel, (List.mem_filter.mpr ⟨List.mem_of_getElem? (i := 769) (by decide +kernel), rfl⟩), (List.mem_filter.mpr ⟨List.mem_of_getElem? (i := 61) (by decide +kernel), rfl⟩), ⟨by decide +kernel, by decide +kernel, by decide +kernel⟩, (List.mem_filter.mpr ⟨List.mem_of_getElem? (i := 768) (by decide +kernel), rfl⟩), by decide⟩
theorem mo_X8_isRow : m_MO yX8_isRow cX8_isRow 1 (some .boolean) 1 true := ⟨by decide +kernel, (List.mem_filter.mpr ⟨List.mem_of_getElem? (i := 358) (by decide +kernel), rfl⟩), (List.mem_filter.mpr ⟨List.mem_of_getElem? (i := 61) (by decide +kernel), rfl⟩), ⟨by decide +kernel, by decide +kernel, by decide +kernel⟩, (List.mem_filter.mpr ⟨List.mem_of_getElem? (i := 357) (by decide +kernel), rfl⟩), by decide⟩
theorem mo_X8_kind : m_MO yX8_kind cX8_kind 2 (some .int) 1 false := ⟨by decide +kernel, (List.mem_filter.mpr ⟨List.mem_of_getElem? (i := 762) (by decide +kernel), rfl⟩), (List.mem_filter.mpr ⟨List.mem_of_getElem? (i := 61) (by decide +kernel), rfl⟩), ⟨by decide +kernel, by decide +kernel, by decide +kernel⟩, ⟨(List.mem_filter.mpr ⟨List.mem_of_getElem? (i := 760) (by decide +kernel), rfl⟩), (List.mem_filter.mpr ⟨List.mem_of_getElem? (i := 761) (by decide +kernel), rfl⟩)⟩, by decide⟩
theorem mo_X8_left : m_MO yX8_left cX8_left 2 (some .int) 1 false := ⟨by decide +kernel, (List.mem_filter.mpr ⟨List.mem_of_getElem? (i := 604) (by decide +kernel), rfl⟩), (List.mem_filter.mpr ⟨List.mem_of_getElem? (i := 61) (by decide +kernel), rfl⟩), ⟨by decide +kernel, by decide +kernel, by decide +kernel⟩, ⟨(List.mem_filter.mpr ⟨List.mem_of_getElem? (i := 602) (by decide +kernel), rfl⟩), (List.mem_filter.mpr ⟨List.mem_of_getElem? (i := 603) (by decide +kernel), rfl⟩)⟩, by decide⟩
theorem mo_X8_line : m_MO yX8_line cX8_line 3 (some .int) 2 false := ⟨by decide +kernel, (List.mem_filter.mpr ⟨List.mem_of_getElem? (i := 600) (by decide +kernel), rfl⟩), (List.mem_filter.mpr ⟨List.mem_of_getElem? (i := 61) (by decide +kernel), rfl⟩), ⟨by decide +kernel, by decide +kernel, by decide +kernel⟩, ⟨(List.mem_filter.mpr ⟨List.mem_of_getElem? (i := 598) (by decide +kernel), rfl⟩), (List.mem_filter.mpr ⟨List.mem_of_getElem? (i := 599) (by decide +kernel), rfl⟩)⟩, by decide⟩
theorem mo_X8_next : m_MO yX8_next cX8_next 2 (some .int) 1 false := ⟨by decide +kernel, (List.mem_filter.mpr ⟨List.mem_of_getElem? (i := 609) (by decide +kernel), rfl⟩), (List.mem_filter.mpr ⟨List.mem_of_getElem? (i := 61) (by decide +kernel), rfl⟩), ⟨by decide +kernel, by decide +kernel, by decide +kernel⟩, ⟨(List.mem_filter.mpr ⟨List.mem_of_getElem? (i := 607) (by decide +kernel), rfl⟩), (List.mem_filter.mpr ⟨List.mem_of_getElem? (i := 608) (by decide +kernel), rfl⟩)⟩, by decide⟩
theorem mo_X8_often : m_MO yX8_often cX8_often 3 (some .int) 2 false := ⟨by decide +kernel, (List.mem_filter.mpr ⟨List.mem_of_getElem? (i := 617) (by decide +kernel), rfl⟩), (List.mem_filter.mpr ⟨List.mem_of_getElem? (i := 61) (by decide +kernel), rfl⟩), ⟨by decide +kernel, by decide +kernel, by decide +kernel⟩, ⟨(List.mem_filter.mpr ⟨List.mem_of_getElem? (i := 615) (by decide +kernel), rfl⟩), (List.mem_filter.mpr ⟨List.mem_of_getElem? (i := 616) (by decide +kernel), rfl⟩)⟩, by decide⟩
theorem mo_X8_orNone : m_MO yX8_orNone cX8_orNone 1 (some .int) 1 true := ⟨by decide +kernel, (List.mem_filter.mpr ⟨List.mem_of_getElem? (i := 545) (by decide +kernel), rfl⟩), (List.mem_filter.mpr ⟨List.mem_of_getElem? (i := 61) (by decide +kernel), rfl⟩), ⟨by decide +kernel, by decide +kernel, by decide +kernel⟩, (List.mem_filter.mpr ⟨List.mem_of_getElem? (i := 544) (by decide +kernel), rfl⟩), by decide⟩
theorem mo_X8_peace : m_MO yX8_peace cX8_peace 3 (some .int) 1 false := ⟨by decide +kernel, (List.mem_filter.mpr ⟨List.mem_of_getElem? (i := 678) (by decide +kernel), rfl⟩), (List.mem_filter.mpr ⟨List.mem_of_getElem? (i := 61) (by decide +kernel), rfl⟩), ⟨by decide +kernel, by decide +kernel, by decide +kernel⟩, ⟨(List.mem_filter.mpr ⟨List.mem_of_getElem? (i := 676) (by decide +kernel), rfl⟩), (List.mem_filter.mpr ⟨List.mem_of_getElem? (i := 677) (by decide +kernel), rfl⟩)⟩, by decide⟩
theorem mo_X8_play : m_MO yX8_play cX8_play 7 (some .int) 3 false := ⟨by decide +kernel, (List.mem_filter.mpr ⟨List.mem_of_getElem? (i := 713) (by decide +kernel), rfl⟩), (List.mem_filter.mpr ⟨List.mem_of_getElem? (i := 61) (by decide +kernel), rfl⟩), ⟨by decide +kernel, by decide +kernel, by decide +kernel⟩, ⟨(List.mem_filter.mpr ⟨List.mem_of_getElem? (i := 711) (by decide +kernel), rfl⟩), (List.mem_filter.mpr ⟨List.mem_of_getElem? (i := 712) (by decide +kernel), rfl⟩)⟩, by decide⟩
theorem mo_X8_power : m_MO yX8_power cX8_power 4 (some .int) 2 true := ⟨by decide +kernel, (List.mem_filter.mpr ⟨List.mem_of_getElem? (i := 720) (by decide +kernel), rfl⟩), (List.mem_filter.mpr ⟨List.mem_of_getElem? (i := 61) (by decide +kernel), rfl⟩), ⟨by decide +kernel, by decide +kernel, by decide +kernel⟩, (List.mem_filter.mpr ⟨List.mem_of_getElem? (i := 719) (by decide +kernel), rfl⟩), by decide⟩
theorem mo_X8_restore : m_MO yX8_restore cX8_restore 2 (some .int) 1 false := ⟨by decide +kernel, (List.mem_filter.mpr ⟨List.mem_of_getElem? (i := 758) (by decide +kernel), rfl⟩), (List.mem_filter.mpr ⟨List.mem_of_getElem? (i := 61) (by decide +kernel), rfl⟩), ⟨by decide +kernel, by decide +kernel, by decide +kernel⟩, ⟨(List.mem_filter.mpr ⟨List.mem_of_getElem? (i := 756) (by decide +kernel), rfl⟩), (List.mem_filter.mpr ⟨List.mem_of_getElem? (i := 757) (by decide +kernel), rfl⟩)⟩, by decide⟩
theorem mo_X8_rests : m_MO yX8_rests cX8_rests 2 (some .int) 1 false := ⟨by decide +kernel, (List.mem_filter.mpr ⟨List.mem_of_getElem? (i := 595) (by decide +kernel), rfl⟩), (List.mem_filter.mpr ⟨List.mem_of_getElem? (i := 61) (by decide +kernel), rfl⟩), ⟨by decide +kernel, by decide +kernel, by decide +kernel⟩, ⟨(List.mem_filter.mpr ⟨List.mem_of_getElem? (i := 593) (by decide +kernel), rfl⟩), (List.mem_filter.mpr ⟨List.mem_of_getElem? (i := 594) (by decide +kernel), rfl⟩)⟩, by decide⟩
theorem mo_X8_rolls : m_MO yX8_rolls cX8_rolls 6 (some .int) 4 false := ⟨by decide +kernel, (List.mem_filter.mpr ⟨List.mem_of_getElem? (i := 689) (by decide +kernel), rfl⟩), (List.mem_filter.mpr ⟨List.mem_of_getElem? (i := 61) (by decide +kernel), rfl⟩), ⟨by decide +kernel, by decide +kernel, by decide +kernel⟩, ⟨(List.mem_filter.mpr ⟨List.mem_of_getElem? (i := 687) (by decide +kernel), rfl⟩), (List.mem_filter.mpr ⟨List.mem_of_getElem? (i := 688) (by decide +kernel), rfl⟩)⟩, by decide⟩
theorem mo_X8_row : m_MO yX8_row cX8_row 4 (some .int) 3 false := ⟨by decide +kernel, (List.mem_filter.mpr ⟨List.mem_of_getElem? (i := 355) (by decide +kernel), rfl⟩), (List.mem_filter.mpr ⟨List.mem_of_getElem? (i := 61) (by decide +kernel), rfl⟩), ⟨by decide +kernel, by decide +kernel, by decide +kernel⟩, ⟨(List.mem_filter.mpr ⟨List.mem_of_getElem? (i := 353) (by decide +kernel), rfl⟩), (List.mem_filter.mpr ⟨List.mem_of_getElem? (i := 354) (by decide +kernel), rfl⟩)⟩, by decide⟩
theorem mo_X8_rowsThere : m_MO yX8_rowsThere cX8_rowsThere 6 (some .int) 0 false := ⟨by decide +kernel, (List.mem_filter.mpr ⟨List.mem_of_getElem? (i := 805) (by decide +kernel), rfl⟩), (List.mem_filter.mpr ⟨List.mem_of_getElem? (i := 61) (by decide +kernel), rfl⟩), ⟨by decide +kernel, by decide +kernel, by decide +kernel⟩, ⟨(List.mem_filter.mpr ⟨List.mem_of_getElem? (i := 804) (by decide +kernel), rfl⟩), (List.mem_filter.mpr ⟨List.mem_of_getElem? (i := 15) (by decide +kernel), rfl⟩)⟩, by decide⟩
theorem mo_X8_set : m_MO yX8_set cX8_set 5 (some .int) 3 false := ⟨by decide +kernel, (List.mem_filter.mpr ⟨List.mem_of_getElem? (i := 379) (by decide +kernel), rfl⟩), (List.mem_filter.mpr ⟨List.mem_of_getElem? (i := 61) (by decide +kernel), rfl⟩), ⟨by decide +kernel, by decide +kernel, by decide +kernel⟩, ⟨(List.mem_filter.mpr ⟨List.mem_of_getElem? (i := 377) (by decide +kernel), rfl⟩), (List.mem_filter.mpr ⟨List.mem_of_getElem? (i := 378) (by decide +kernel), rfl⟩)⟩, by decide⟩
theorem mo_X8_shun : m_MO yX8_shun cX8_shun 4 (some .int) 3 false := ⟨by decide +kernel, (List.mem_filter.mpr ⟨List.mem_of_getElem? (i := 649) (by decide +kernel), rfl⟩), (List.mem_filter.mpr ⟨List.mem_of_getElem? (i := 61) (by decide +kernel), rfl⟩), ⟨by decide +kernel, by decide +kernel, by decide +kernel⟩, ⟨(List.mem_filter.mpr ⟨List.mem_of_getElem? (i := 647) (by decide +kernel), rfl⟩), (List.mem_filter.mpr ⟨List.mem_of_getElem? (i := 648) (by decide +kernel), rfl⟩)⟩, by decide⟩
theorem mo_X8_site : m_MO yX8_site cX8_site 5 (some .int) 3 false := ⟨by decide +kernel, (List.mem_filter.mpr ⟨List.mem_of_getElem? (i := 654) (by decide +kernel), rfl⟩), (List.mem_filter.mpr ⟨List.mem_of_getElem? (i := 61) (by decide +kernel), rfl⟩), ⟨by decide +kernel, by decide +kernel, by decide +kernel⟩, ⟨(List.mem_filter.mpr ⟨List.mem_of_getElem? (i := 652) (by decide +kernel), rfl⟩), (List.mem_filter.mpr ⟨List.mem_of_getElem? (i := 653) (by decide +kernel), rfl⟩)⟩, by decide⟩
theorem mo_X8_sizeOrSet : m_MO yX8_sizeOrSet cX8_sizeOrSet 2 (some .int) 2 true := ⟨by decide +kernel, (List.mem_filter.mpr ⟨List.mem_of_getElem? (i := 644) (by decide +kernel), rfl⟩), (List.mem_filter.mpr ⟨List.mem_of_getElem? (i := 61) (by decide +kernel), rfl⟩), ⟨by decide +kernel, by decide +kernel, by decide +kernel⟩, (List.mem_filter.mpr ⟨List.mem_of_getElem? (i := 643) (by decide +kernel), rfl⟩), by decide⟩
theorem mo_X8_sorts : m_MO yX8_sorts cX8_sorts 6 (some .int) 4 false := ⟨by decide +kernel, (List.mem_filter.mpr ⟨List.mem_of_getElem? (i := 705) (by decide +kernel), rfl⟩), (List.mem_filter.mpr ⟨List.mem_of_getElem? (i := 61) (by decide +kernel), rfl⟩), ⟨by decide +kernel, by decide +kernel, by decide +kernel⟩, ⟨(List.mem_filter.mpr ⟨List.mem_of_getElem? (i := 703) (by decide +kernel), rfl⟩), (List.mem_filter.mpr ⟨List.mem_of_getElem? (i := 704) (by decide +kernel), rfl⟩)⟩, by decide⟩
theorem mo_X8_speed : m_MO yX8_speed cX8_speed 3 (some .int) 1 false := ⟨by decide +kernel, (List.mem_filter.mpr ⟨List.mem_of_getElem? (i := 573) (by decide +kernel), rfl⟩), (List.mem_filter.mpr ⟨List.mem_of_getElem? (i := 61) (by decide +kernel), rfl⟩), ⟨by decide +kernel, by decide +kernel, by decide +kernel⟩, ⟨(List.mem_filter.mpr ⟨List.mem_of_getElem? (i := 571) (by decide +kernel), rfl⟩), (List.mem_filter.mpr ⟨List.mem_of_getElem? (i := 572) (by decide +kernel), rfl⟩)⟩, by decide⟩
theorem mo_X8_status : m_MO yX8_status cX8_status 1 (some .int) 0 false := ⟨by decide +kernel, (List.mem_filter.mpr ⟨List.mem_of_getElem? (i := 810) (by decide +kernel), rfl⟩), (List.mem_filter.mpr ⟨List.mem_of_getElem? (i := 61) (by decide +kernel), rfl⟩), ⟨by decide +kernel, by decide +kernel, by decide +kernel⟩, ⟨(List.mem_filter.mpr ⟨List.mem_of_getElem? (i := 808) (by decide +kernel), rfl⟩), (List.mem_filter.mpr ⟨List.mem_of_getElem? (i := 809) (by decide +kernel), rfl⟩)⟩, by decide⟩
theorem mo_X8_sulks : m_MO yX8_sulks cX8_sulks 1 (some .int) 0 false := ⟨by decide +kernel, (List.mem_filter.mpr ⟨List.mem_of_getElem? (i := 666) (by decide +kernel), rfl⟩), (List.mem_filter.mpr ⟨List.mem_of_getElem? (i := 61) (by decide +kernel), rfl⟩), ⟨by decide +kernel, by decide +kernel, by decide +kernel⟩, ⟨(List.mem_filter.mpr ⟨List.mem_of_getElem? (i := 664) (by decide +kernel), rfl⟩), (List.mem_filter.mpr ⟨List.mem_of_getElem? (i := 665) (by decide +kernel), rfl⟩)⟩, by decide⟩
theorem mo_X8_trace : m_MO yX8_trace cX8_trace 2 (some .int) 1 false := ⟨by decide +kernel, (List.mem_filter.mpr ⟨List.mem_of_getElem? (i := 797) (by decide +kernel), rfl⟩), (List.mem_filter.mpr ⟨List.mem_of_getElem? (i := 61) (by decide +kernel), rfl⟩), ⟨by decide +kernel, by decide +kernel, by decide +kernel⟩, ⟨(List.mem_filter.mpr ⟨List.mem_of_getElem? (i := 795) (by decide +kernel), rfl⟩), (List.mem_filter.mpr ⟨List.mem_of_getElem? (i := 796) (by decide +kernel), rfl⟩)⟩, by decide⟩
theorem mo_X8_undo : m_MO yX8_undo cX8_undo 1 (some .int) 0 false := ⟨by decide +kernel, (List.mem_filter.mpr ⟨List.mem_of_getElem? (i := 577) (by decide +kernel), rfl⟩), (List.mem_filter.mpr ⟨List.mem_of_getElem? (i := 61) (by decide +kernel), rfl⟩), ⟨by decide +kernel, by decide +kernel, by decide +kernel⟩, ⟨(List.mem_filter.mpr ⟨List.mem_of_getElem? (i := 575) (by decide +kernel), rfl⟩), (List.mem_filter.mpr ⟨List.mem_of_getElem? (i := 576) (by decide +kernel), rfl⟩)⟩, by decide⟩
theorem mo_X8_within : m_MO yX8_within cX8_within 3 (some .boolean) 3 true := ⟨by decide +kernel, (List.mem_filter.mpr ⟨List.mem_of_getElem? (i := 361) (by decide +kernel), rfl⟩), (List.mem_filter.mpr ⟨List.mem_of_getElem? (i := 61) (by decide +kernel), rfl⟩), ⟨by decide +kernel, by decide +kernel, by decide +kernel⟩, (List.mem_filter.mpr ⟨List.mem_of_getElem? (i := 360) (by decide +kernel), rfl⟩), by decide⟩
theorem mo_X8_years : m_MO yX8_years cX8_years 4 (some .int) 1 false := ⟨by decide +kernel, (List.mem_filter.mpr ⟨List.mem_of_getElem? (i := 484) (by decide +kernel), rfl⟩), (List.mem_filter.mpr ⟨List.mem_of_getElem? (i := 61) (by decide +kernel), rfl⟩), ⟨by decide +kernel, by decide +kernel, by decide +kernel⟩, ⟨(List.mem_filter.mpr ⟨List.mem_of_getElem? (i := 482) (by decide +kernel), rfl⟩), (List.mem_filter.mpr ⟨List.mem_of_getElem? (i := 483) (by decide +kernel), rfl⟩)⟩, by decide⟩
theorem mo_X0_forgetOldest : m_MO yX0_forgetOldest cX0_forgetOldest 1 none 0 false := ⟨by decide +kernel, (List.mem_filter.mpr ⟨List.mem_of_getElem? (i := 541) (by decide +kernel), rfl⟩), (List.mem_filter.mpr ⟨List.mem_of_getElem? (i := 66) (by decide +kernel), rfl⟩), ⟨by decide +kernel, by decide +kernel, by decide +kernel⟩, ⟨(List.mem_filter.mpr ⟨List.mem_of_getElem? (i := 540) (by decide +kernel), rfl⟩), (List.mem_filter.mpr ⟨List.mem_of_getElem? (i := 9) (by decide +kernel), rfl⟩)⟩, by decide⟩
theorem mo_X0_keep : m_MO yX0_keep cX0_keep 4 none 3 false := ⟨by decide +kernel, (List.mem_filter.mpr ⟨List.mem_of_getElem? (i := 537) (by decide +kernel), rfl⟩), (List.mem_filter.mpr ⟨List.mem_of_getElem? (i := 66) (by decide +kernel), rfl⟩), ⟨by decide +kernel, by decide +kernel, by decide +kernel⟩, ⟨(List.mem_filter.mpr ⟨List.mem_of_getElem? (i := 535) (by decide +kernel), rfl⟩), (List.mem_filter.mpr ⟨List.mem_of_getElem? (i := 536) (by decide +kernel), rfl⟩)⟩, by decide⟩
theorem mo_X0_takeBackLatest : m_MO yX0_takeBackLatest cX0_takeBackLatest 4 none 1 false := ⟨by decide +kernel, (List.mem_filter.mpr ⟨List.mem_of_getElem? (i := 581) (by decide +kernel), rfl⟩), (List.mem_filter.mpr ⟨List.mem_of_getElem? (i := 66) (by decide +kernel), rfl⟩), ⟨by decide +kernel, by decide +kernel, by decide +kernel⟩, ⟨(List.mem_filter.mpr ⟨List.mem_of_getElem? (i := 579) (by decide +kernel), rfl⟩), (List.mem_filter.mpr ⟨List.mem_of_getElem? (i := 580) (by decide +kernel), rfl⟩)⟩, by decide⟩
theorem mo_X1_addHouse : m_MO yX1_addHouse cX1_addHouse 6 none 4 false := ⟨by decide +kernel, (List.mem_filter.mpr ⟨List.mem_of_getElem? (i := 463) (by decide +kernel), rfl⟩), (List.mem_filter.mpr ⟨List.mem_of_getElem? (i := 63) (by decide +kernel), rfl⟩), ⟨by decide +kernel, by decide +kernel, by decide +kernel⟩, ⟨(List.mem_filter.mpr ⟨List.mem_of_getElem? (i := 461) (by decide +kernel), rfl⟩), (List.mem_filter.mpr ⟨List.mem_of_getElem? (i := 462) (by decide +kernel), rfl⟩)⟩, by decide⟩
theorem mo_X1_allGot : m_MO yX1_allGot cX1_allGot 3 (some .int) 0 false := ⟨by decide +kernel, (List.mem_filter.mpr ⟨List.mem_of_getElem? (i := 746) (by decide +kernel), rfl⟩), (List.mem_filter.mpr ⟨List.mem_of_getElem? (i := 63) (by decide +kernel), rfl⟩), ⟨by decide +kernel, by decide +kernel, by decide +kernel⟩, ⟨(List.mem_filter.mpr ⟨List.mem_of_getElem? (i := 744) (by decide +kernel), rfl⟩), (List.mem_filter.mpr ⟨List.mem_of_getElem? (i := 745) (by decide +kernel), rfl⟩)⟩, by decide⟩
theorem mo_X1_allHouses : m_MO yX1_allHouses cX1_allHouses 1 (some .int) 0 false := ⟨by decide +kernel, (List.mem_filter.mpr ⟨List.mem_of_getElem? (i := 634) (by decide +kernel), rfl⟩), (List.mem_filter.mpr ⟨List.mem_of_getElem? (i := 63) (by decide +kernel), rfl⟩), ⟨by decide +kernel, by decide +kernel, by decide +kernel⟩, ⟨(List.mem_filter.mpr ⟨List.mem_of_getElem? (i := 632) (by decide +kernel), rfl⟩), (List.mem_filter.mpr ⟨List.mem_of_getElem? (i := 633) (by decide +kernel), rfl⟩)⟩, by decide⟩
theorem mo_X1_become : m_MO yX1_become cX1_become 3 none 1 false := ⟨by decide +kernel, (List.mem_filter.mpr ⟨List.mem_of_getElem? (i := 472) (by decide +kernel), rfl⟩), (List.mem_filter.mpr ⟨List.mem_of_getElem? (i := 63) (by decide +kernel), rfl⟩), ⟨by decide +kernel, by decide +kernel, by decide +kernel⟩, ⟨(List.mem_filter.mpr ⟨List.mem_of_getElem? (i := 470) (by decide +kernel), rfl⟩), (List.mem_filter.mpr ⟨List.mem_of_getElem? (i := 471) (by decide +kernel), rfl⟩)⟩, by decide⟩
theorem mo_X1_clear : m_MO yX1_clear cX1_clear 1 none 0 false := ⟨by decide +kernel, (List.mem_filter.mpr ⟨List.mem_of_getElem? (i := 419) (by decide +kernel), rfl⟩), (List.mem_filter.mpr ⟨List.mem_of_getElem? (i := 63) (by decide +kernel), rfl⟩), ⟨by decide +kernel, by decide +kernel, by decide +kernel⟩, ⟨(List.mem_filter.mpr ⟨List.mem_of_getElem? (i := 417) (by decide +kernel), rfl⟩), (List.mem_filter.mpr ⟨List.mem_of_getElem? (i := 418) (by decide +kernel), rfl⟩)⟩, by decide⟩
theorem mo_X1_firstAt : m_MO yX1_firstAt cX1_firstAt 3 (some .int) 1 false := ⟨by decide +kernel, (List.mem_filter.mpr ⟨List.mem_of_getElem? (i := 613) (by decide +kernel), rfl⟩), (List.mem_filter.mpr ⟨List.mem_of_getElem? (i := 63) (by decide +kernel), rfl⟩), ⟨by decide +kernel, by decide +kernel, by decide +kernel⟩, ⟨(List.mem_filter.mpr ⟨List.mem_of_getElem? (i := 611) (by decide +kernel), rfl⟩), (List.mem_filter.mpr ⟨List.mem_of_getElem? (i := 612) (by decide +kernel), rfl⟩)⟩, by decide⟩
theorem mo_X1_forgetGot : m_MO yX1_forgetGot cX1_forgetGot 2 none 0 false := ⟨by decide +kernel, (List.mem_filter.mpr ⟨List.mem_of_getElem? (i := 737) (by decide +kernel), rfl⟩), (List.mem_filter.mpr ⟨List.mem_of_getElem? (i := 63) (by decide +kernel), rfl⟩), ⟨by decide +kernel, by decide +kernel, by decide +kernel⟩, ⟨(List.mem_filter.mpr ⟨List.mem_of_getElem? (i := 735) (by decide +kernel), rfl⟩), (List.mem_filter.mpr ⟨List.mem_of_getElem? (i := 736) (by decide +kernel), rfl⟩)⟩, by decide⟩
theorem mo_X1_letGo : m_MO yX1_letGo cX1_letGo 4 (some .int) 1 false := ⟨by decide +kernel, (List.mem_filter.mpr ⟨List.mem_of_getElem? (i := 501) (by decide +kernel), rfl⟩), (List.mem_filter.mpr ⟨List.mem_of_getElem? (i := 63) (by decide +kernel), rfl⟩), ⟨by decide +kernel, by decide +kernel, by decide +kernel⟩, ⟨(List.mem_filter.mpr ⟨List.mem_of_getElem? (i := 499) (by decide +kernel), rfl⟩), (List.mem_filter.mpr ⟨List.mem_of_getElem? (i := 500) (by decide +kernel), rfl⟩)⟩, by decide⟩
theorem mo_X1_meet : m_MO yX1_meet cX1_meet 5 none 2 false := ⟨by decide +kernel, (List.mem_filter.mpr ⟨List.mem_of_getElem? (i := 524) (by decide +kernel), rfl⟩), (List.mem_filter.mpr ⟨List.mem_of_getElem? (i := 63) (by decide +kernel), rfl⟩), ⟨by decide +kernel, by decide +kernel, by decide +kernel⟩, ⟨(List.mem_filter.mpr ⟨List.mem_of_getElem? (i := 523) (by decide +kernel), rfl⟩), (List.mem_filter.mpr ⟨List.mem_of_getElem? (i := 8) (by decide +kernel), rfl⟩)⟩, by decide⟩
theorem mo_X1_mostFavoured : m_MO yX1_mostFavoured cX1_mostFavoured 4 (some .int) 0 false := ⟨by decide +kernel, (List.mem_filter.mpr ⟨List.mem_of_getElem? (i := 750) (by decide +kernel), rfl⟩), (List.mem_filter.mpr ⟨List.mem_of_getElem? (i := 63) (by decide +kernel), rfl⟩), ⟨by decide +kernel, by decide +kernel, by decide +kernel⟩, ⟨(List.mem_filter.mpr ⟨List.mem_of_getElem? (i := 748) (by decide +kernel), rfl⟩), (List.mem_filter.mpr ⟨List.mem_of_getElem? (i := 749) (by decide +kernel), rfl⟩)⟩, by decide⟩
theorem mo_X1_openness : m_MO yX1_openness cX1_openness 2 (some .int) 1 false := ⟨by decide +kernel, (List.mem_filter.mpr ⟨List.mem_of_getElem? (i := 528) (by decide +kernel), rfl⟩), (List.mem_filter.mpr ⟨List.mem_of_getElem? (i := 63) (by decide +kernel), rfl⟩), ⟨by decide +kernel, by decide +kernel, by decide +kernel⟩, ⟨(List.mem_filter.mpr ⟨List.mem_of_getElem? (i := 526) (by decide +kernel), rfl⟩), (List.mem_filter.mpr ⟨List.mem_of_getElem? (i := 527) (by decide +kernel), rfl⟩)⟩, by decide⟩
theorem mo_X1_passYear : m_MO yX1_passYear cX1_passYear 2 (some .int) 0 false := ⟨by decide +kernel, (List.mem_filter.mpr ⟨List.mem_of_getElem? (i := 489) (by decide +kernel), rfl⟩), (List.mem_filter.mpr ⟨List.mem_of_getElem? (i := 63) (by decide +kernel), rfl⟩), ⟨by decide +kernel, by decide +kernel, by decide +kernel⟩, ⟨(List.mem_filter.mpr ⟨List.mem_of_getElem? (i := 487) (by decide +kernel), rfl⟩), (List.mem_filter.mpr ⟨List.mem_of_getElem? (i := 488) (by decide +kernel), rfl⟩)⟩, by decide⟩
theorem mo_X1_putLaw : m_MO yX1_putLaw cX1_putLaw 3 none 2 false := ⟨by decide +kernel, (List.mem_filter.mpr ⟨List.mem_of_getElem? (i := 448) (by decide +kernel), rfl⟩), (List.mem_filter.mpr ⟨List.mem_of_getElem? (i := 63) (by decide +kernel), rfl⟩), ⟨by decide +kernel, by decide +kernel, by decide +kernel⟩, ⟨(List.mem_filter.mpr ⟨List.mem_of_getElem? (i := 446) (by decide +kernel), rfl⟩), (List.mem_filter.mpr ⟨List.mem_of_getElem? (i := 447) (by decide +kernel), rfl⟩)⟩, by decide⟩
theorem mo_X1_restIn : m_MO yX1_restIn cX1_restIn 2 (some .int) 1 false := ⟨by decide +kernel, (List.mem_filter.mpr ⟨List.mem_of_getElem? (i := 493) (by decide +kernel), rfl⟩), (List.mem_filter.mpr ⟨List.mem_of_getElem? (i := 63) (by decide +kernel), rfl⟩), ⟨by decide +kernel, by decide +kernel, by decide +kernel⟩, ⟨(List.mem_filter.mpr ⟨List.mem_of_getElem? (i := 491) (by decide +kernel), rfl⟩), (List.mem_filter.mpr ⟨List.mem_of_getElem? (i := 492) (by decide +kernel), rfl⟩)⟩, by decide⟩
theorem mo_X1_standing : m_MO yX1_standing cX1_standing 4 (some .int) 2 false := ⟨by decide +kernel, (List.mem_filter.mpr ⟨List.mem_of_getElem? (i := 459) (by decide +kernel), rfl⟩), (List.mem_filter.mpr ⟨List.mem_of_getElem? (i := 63) (by decide +kernel), rfl⟩), ⟨by decide +kernel, by decide +kernel, by decide +kernel⟩, ⟨(List.mem_filter.mpr ⟨List.mem_of_getElem? (i := 457) (by decide +kernel), rfl⟩), (List.mem_filter.mpr ⟨List.mem_of_getElem? (i := 458) (by decide +kernel), rfl⟩)⟩, by decide⟩
theorem mo_X1_timesAt : m_MO yX1_timesAt cX1_timesAt 5 (some .int) 2 false := ⟨by decide +kernel, (List.mem_filter.mpr ⟨List.mem_of_getElem? (i := 621) (by decide +kernel), rfl⟩), (List.mem_filter.mpr ⟨List.mem_of_getElem? (i := 63) (by decide +kernel), rfl⟩), ⟨by decide +kernel, by decide +kernel, by decide +kernel⟩, ⟨(List.mem_filter.mpr ⟨List.mem_of_getElem? (i := 619) (by decide +kernel), rfl⟩), (List.mem_filter.mpr ⟨List.mem_of_getElem? (i := 620) (by decide +kernel), rfl⟩)⟩, by decide⟩
theorem mo_X1_topLine : m_MO yX1_topLine cX1_topLine 2 (some .int) 1 false := ⟨by decide +kernel, (List.mem_filter.mpr ⟨List.mem_of_getElem? (i := 497) (by decide +kernel), rfl⟩), (List.mem_filter.mpr ⟨List.mem_of_getElem? (i := 63) (by decide +kernel), rfl⟩), ⟨by decide +kernel, by decide +kernel, by decide +kernel⟩, ⟨(List.mem_filter.mpr ⟨List.mem_of_getElem? (i := 495) (by decide +kernel), rfl⟩), (List.mem_filter.mpr ⟨List.mem_of_getElem? (i := 496) (by decide +kernel), rfl⟩)⟩, by decide⟩
theorem mo_X2_become : m_MO yX2_become cX2_become 2 none 1 false := ⟨by decide +kernel, (List.mem_filter.mpr ⟨List.mem_of_getElem? (i := 476) (by decide +kernel), rfl⟩), (List.mem_filter.mpr ⟨List.mem_of_getElem? (i := 65) (by decide +kernel), rfl⟩), ⟨by decide +kernel, by decide +kernel, by decide +kernel⟩, ⟨(List.mem_filter.mpr ⟨List.mem_of_getElem? (i := 474) (by decide +kernel), rfl⟩), (List.mem_filter.mpr ⟨List.mem_of_getElem? (i := 475) (by decide +kernel), rfl⟩)⟩, by decide⟩
theorem mo_X2_cell : m_MO yX2_cell cX2_cell 1 (some .int) 0 false := ⟨by decide +kernel, (List.mem_filter.mpr ⟨List.mem_of_getElem? (i := 568) (by decide +kernel), rfl⟩), (List.mem_filter.mpr ⟨List.mem_of_getElem? (i := 65) (by decide +kernel), rfl⟩), ⟨by decide +kernel, by decide +kernel, by decide +kernel⟩, ⟨(List.mem_filter.mpr ⟨List.mem_of_getElem? (i := 566) (by decide +kernel), rfl⟩), (List.mem_filter.mpr ⟨List.mem_of_getElem? (i := 567) (by decide +kernel), rfl⟩)⟩, by decide⟩
theorem mo_X2_stand : m_MO yX2_stand cX2_stand 3 none 2 false := ⟨by decide +kernel, (List.mem_filter.mpr ⟨List.mem_of_getElem? (i := 467) (by decide +kernel), rfl⟩), (List.mem_filter.mpr ⟨List.mem_of_getElem? (i := 65) (by decide +kernel), rfl⟩), ⟨by decide +kernel, by decide +kernel, by decide +kernel⟩, ⟨(List.mem_filter.mpr ⟨List.mem_of_getElem? (i := 465) (by decide +kernel), rfl⟩), (List.mem_filter.mpr ⟨List.mem_of_getElem? (i := 466) (by decide +kernel), rfl⟩)⟩, by decide⟩
theorem mo_X3_begin : m_MO yX3_begin cX3_begin 3 none 2 false := ⟨by decide +kernel, (List.mem_filter.mpr ⟨List.mem_of_getElem? (i := 505) (by decide +kernel), rfl⟩), (List.mem_filter.mpr ⟨List.mem_of_getElem? (i := 64) (by decide +kernel), rfl⟩), ⟨by decide +kernel, by decide +kernel, by decide +kernel⟩, ⟨(List.mem_filter.mpr ⟨List.mem_of_getElem? (i := 503) (by decide +kernel), rfl⟩), (List.mem_filter.mpr ⟨List.mem_of_getElem? (i := 504) (by decide +kernel), rfl⟩)⟩, by decide⟩
theorem mo_X3_reach : m_MO yX3_reach cX3_reach 2 none 1 false := ⟨by decide +kernel, (List.mem_filter.mpr ⟨List.mem_of_getElem? (i := 509) (by decide +kernel), rfl⟩), (List.mem_filter.mpr ⟨List.mem_of_getElem? (i := 64) (by decide +kernel), rfl⟩), ⟨by decide +kernel, by decide +kernel, by decide +kernel⟩, ⟨(List.mem_filter.mpr ⟨List.mem_of_getElem? (i := 507) (by decide +kernel), rfl⟩), (List.mem_filter.mpr ⟨List.mem_of_getElem? (i := 508) (by decide +kernel), rfl⟩)⟩, by decide⟩
theorem mo_X3_restAt : m_MO yX3_restAt cX3_restAt 2 none 1 false := ⟨by decide +kernel, (List.mem_filter.mpr ⟨List.mem_of_getElem? (i := 532) (by decide +kernel), rfl⟩), (List.mem_filter.mpr ⟨List.mem_of_getElem? (i := 64) (by decide +kernel), rfl⟩), ⟨by decide +kernel, by decide +kernel, by decide +kernel⟩, ⟨(List.mem_filter.mpr ⟨List.mem_of_getElem? (i := 530) (by decide +kernel), rfl⟩), (List.mem_filter.mpr ⟨List.mem_of_getElem? (i := 531) (by decide +kernel), rfl⟩)⟩, by decide⟩
theorem mo_X3_turn : m_MO yX3_turn cX3_turn 2 none 1 false := ⟨by decide +kernel, (List.mem_filter.mpr ⟨List.mem_of_getElem? (i := 513) (by decide +kernel), rfl⟩), (List.mem_filter.mpr ⟨List.mem_of_getElem? (i := 64) (by decide +kernel), rfl⟩), ⟨by decide +kernel, by decide +kernel, by decide +kernel⟩, ⟨(List.mem_filter.mpr ⟨List.mem_of_getElem? (i := 511) (by decide +kernel), rfl⟩), (List.mem_filter.mpr ⟨List.mem_of_getElem? (i := 512) (by decide +kernel), rfl⟩)⟩, by decide⟩
theorem mo_X4_begin : m_MO yX4_begin cX4_begin 4 none 2 false := ⟨by decide +kernel, (List.mem_filter.mpr ⟨List.mem_of_getElem? (i := 371) (by decide +kernel), rfl⟩), (List.mem_filter.mpr ⟨List.mem_of_getElem? (i := 69) (by decide +kernel), rfl⟩), ⟨by decide +kernel, by decide +kernel, by decide +kernel⟩, ⟨(List.mem_filter.mpr ⟨List.mem_of_getElem? (i := 369) (by decide +kernel), rfl⟩), (List.mem_filter.mpr ⟨List.mem_of_getElem? (i := 370) (by decide +kernel), rfl⟩)⟩, by decide⟩
theorem mo_X4_cut : m_MO yX4_cut cX4_cut 2 (some .int) 1 false := ⟨by decide +kernel, (List.mem_filter.mpr ⟨List.mem_of_getElem? (i := 387) (by decide +kernel), rfl⟩), (List.mem_filter.mpr ⟨List.mem_of_getElem? (i := 69) (by decide +kernel), rfl⟩), ⟨by decide +kernel, by decide +kernel, by decide +kernel⟩, ⟨(List.mem_filter.mpr ⟨List.mem_of_getElem? (i := 385) (by decide +kernel), rfl⟩), (List.mem_filter.mpr ⟨List.mem_of_getElem? (i := 386) (by decide +kernel), rfl⟩)⟩, by decide⟩
theorem mo_X4_reaches : m_MO yX4_reaches cX4_reaches 3 (some .boolean) 2 false := ⟨by decide +kernel, (List.mem_filter.mpr ⟨List.mem_of_getElem? (i := 383) (by decide +kernel), rfl⟩), (List.mem_filter.mpr ⟨List.mem_of_getElem? (i := 69) (by decide +kernel), rfl⟩), ⟨by decide +kernel, by decide +kernel, by decide +kernel⟩, ⟨(List.mem_filter.mpr ⟨List.mem_of_getElem? (i := 381) (by decide +kernel), rfl⟩), (List.mem_filter.mpr ⟨List.mem_of_getElem? (i := 382) (by decide +kernel), rfl⟩)⟩, by decide⟩
theorem mo_X5_bestCell : m_MO yX5_bestCell cX5_bestCell 9 (some .int) 3 false := ⟨by decide +kernel, (List.mem_filter.mpr ⟨List.mem_of_getElem? (i := 658) (by decide +kernel), rfl⟩), (List.mem_filter.mpr ⟨List.mem_of_getElem? (i := 67) (by decide +kernel), rfl⟩), ⟨by decide +kernel, by decide +kernel, by decide +kernel⟩, ⟨(List.mem_filter.mpr ⟨List.mem_of_getElem? (i := 656) (by decide +kernel), rfl⟩), (List.mem_filter.mpr ⟨List.mem_of_getElem? (i := 657) (by decide +kernel), rfl⟩)⟩, by decide⟩
theorem mo_X5_drawCentury : m_MO yX5_drawCentury cX5_drawCentury 8 none 3 false := ⟨by decide +kernel, (List.mem_filter.mpr ⟨List.mem_of_getElem? (i := 733) (by decide +kernel), rfl⟩), (List.mem_filter.mpr ⟨List.mem_of_getElem? (i := 67) (by decide +kernel), rfl⟩), ⟨by decide +kernel, by decide +kernel, by decide +kernel⟩, ⟨(List.mem_filter.mpr ⟨List.mem_of_getElem? (i := 731) (by decide +kernel), rfl⟩), (List.mem_filter.mpr ⟨List.mem_of_getElem? (i := 732) (by decide +kernel), rfl⟩)⟩, by decide⟩
theorem mo_X5_fewestDoors : m_MO yX5_fewestDoors cX5_fewestDoors 8 (some .int) 3 false := ⟨by decide +kernel, (List.mem_filter.mpr ⟨List.mem_of_getElem? (i := 629) (by decide +kernel), rfl⟩), (List.mem_filter.mpr ⟨List.mem_of_getElem? (i := 67) (by decide +kernel), rfl⟩), ⟨by decide +kernel, by decide +kernel, by decide +kernel⟩, ⟨(List.mem_filter.mpr ⟨List.mem_of_getElem? (i := 627) (by decide +kernel), rfl⟩), (List.mem_filter.mpr ⟨List.mem_of_getElem? (i := 628) (by decide +kernel), rfl⟩)⟩, by decide⟩
theorem mo_X5_fits : m_MO yX5_fits cX5_fits 5 (some .boolean) 3 false := ⟨by decide +kernel, (List.mem_filter.mpr ⟨List.mem_of_getElem? (i := 701) (by decide +kernel), rfl⟩), (List.mem_filter.mpr ⟨List.mem_of_getElem? (i := 67) (by decide +kernel), rfl⟩), ⟨by decide +kernel, by decide +kernel, by decide +kernel⟩, ⟨(List.mem_filter.mpr ⟨List.mem_of_getElem? (i := 700) (by decide +kernel), rfl⟩), (List.mem_filter.mpr ⟨List.mem_of_getElem? (i := 13) (by decide +kernel), rfl⟩)⟩, by decide⟩
theorem mo_X5_kindsThatFit : m_MO yX5_kindsThatFit cX5_kindsThatFit 8 (some .int) 5 false := ⟨by decide +kernel, (List.mem_filter.mpr ⟨List.mem_of_getElem? (i := 709) (by decide +kernel), rfl⟩), (List.mem_filter.mpr ⟨List.mem_of_getElem? (i := 67) (by decide +kernel), rfl⟩), ⟨by decide +kernel, by decide +kernel, by decide +kernel⟩, ⟨(List.mem_filter.mpr ⟨List.mem_of_getElem? (i := 707) (by decide +kernel), rfl⟩), (List.mem_filter.mpr ⟨List.mem_of_getElem? (i := 708) (by decide +kernel), rfl⟩)⟩, by decide⟩
theorem mo_X5_lawsThatFit : m_MO yX5_lawsThatFit cX5_lawsThatFit 9 (some .int) 5 false := ⟨by decide +kernel, (List.mem_filter.mpr ⟨List.mem_of_getElem? (i := 693) (by decide +kernel), rfl⟩), (List.mem_filter.mpr ⟨List.mem_of_getElem? (i := 67) (by decide +kernel), rfl⟩), ⟨by decide +kernel, by decide +kernel, by decide +kernel⟩, ⟨(List.mem_filter.mpr ⟨List.mem_of_getElem? (i := 691) (by decide +kernel), rfl⟩), (List.mem_filter.mpr ⟨List.mem_of_getElem? (i := 692) (by decide +kernel), rfl⟩)⟩, by decide⟩
theorem mo_X5_playedWays : m_MO yX5_playedWays cX5_playedWays 7 (some .int) 3 false := ⟨by decide +kernel, (List.mem_filter.mpr ⟨List.mem_of_getElem? (i := 717) (by decide +kernel), rfl⟩), (List.mem_filter.mpr ⟨List.mem_of_getElem? (i := 67) (by decide +kernel), rfl⟩), ⟨by decide +kernel, by decide +kernel, by decide +kernel⟩, ⟨(List.mem_filter.mpr ⟨List.mem_of_getElem? (i := 715) (by decide +kernel), rfl⟩), (List.mem_filter.mpr ⟨List.mem_of_getElem? (i := 716) (by decide +kernel), rfl⟩)⟩, by decide⟩
theorem mo_X5_sulkers : m_MO yX5_sulkers cX5_sulkers 8 (some .int) 0 false := ⟨by decide +kernel, (List.mem_filter.mpr ⟨List.mem_of_getElem? (i := 674) (by decide +kernel), rfl⟩), (List.mem_filter.mpr ⟨List.mem_of_getElem? (i := 67) (by decide +kernel), rfl⟩), ⟨by decide +kernel, by decide +kernel, by decide +kernel⟩, ⟨(List.mem_filter.mpr ⟨List.mem_of_getElem? (i := 673) (by decide +kernel), rfl⟩), (List.mem_filter.mpr ⟨List.mem_of_getElem? (i := 12) (by decide +kernel), rfl⟩)⟩, by decide⟩
theorem mo_X5_sulkersNow : m_MO yX5_sulkersNow cX5_sulkersNow 2 (some .int) 1 false := ⟨by decide +kernel, (List.mem_filter.mpr ⟨List.mem_of_getElem? (i := 670) (by decide +kernel), rfl⟩), (List.mem_filter.mpr ⟨List.mem_of_getElem? (i := 67) (by decide +kernel), rfl⟩), ⟨by decide +kernel, by decide +kernel, by decide +kernel⟩, ⟨(List.mem_filter.mpr ⟨List.mem_of_getElem? (i := 668) (by decide +kernel), rfl⟩), (List.mem_filter.mpr ⟨List.mem_of_getElem? (i := 669) (by decide +kernel), rfl⟩)⟩, by decide⟩
theorem mo_X5_turnsToPeace : m_MO yX5_turnsToPeace cX5_turnsToPeace 4 (some .int) 1 false := ⟨by decide +kernel, (List.mem_filter.mpr ⟨List.mem_of_getElem? (i := 682) (by decide +kernel), rfl⟩), (List.mem_filter.mpr ⟨List.mem_of_getElem? (i := 67) (by decide +kernel), rfl⟩), ⟨by decide +kernel, by decide +kernel, by decide +kernel⟩, ⟨(List.mem_filter.mpr ⟨List.mem_of_getElem? (i := 680) (by decide +kernel), rfl⟩), (List.mem_filter.mpr ⟨List.mem_of_getElem? (i := 681) (by decide +kernel), rfl⟩)⟩, by decide⟩
theorem mo_X6_append : m_MO yX6_append cX6_append 2 (some .boolean) 1 false := ⟨by decide +kernel, (List.mem_filter.mpr ⟨List.mem_of_getElem? (i := 406) (by decide +kernel), rfl⟩), (List.mem_filter.mpr ⟨List.mem_of_getElem? (i := 62) (by decide +kernel), rfl⟩), ⟨by decide +kernel, by decide +kernel, by decide +kernel⟩, ⟨(List.mem_filter.mpr ⟨List.mem_of_getElem? (i := 404) (by decide +kernel), rfl⟩), (List.mem_filter.mpr ⟨List.mem_of_getElem? (i := 405) (by decide +kernel), rfl⟩)⟩, by decide⟩
theorem mo_X6_fail : m_MO yX6_fail cX6_fail 3 (some .boolean) 2 false := ⟨by decide +kernel, (List.mem_filter.mpr ⟨List.mem_of_getElem? (i := 436) (by decide +kernel), rfl⟩), (List.mem_filter.mpr ⟨List.mem_of_getElem? (i := 62) (by decide +kernel), rfl⟩), ⟨by decide +kernel, by decide +kernel, by decide +kernel⟩, ⟨(List.mem_filter.mpr ⟨List.mem_of_getElem? (i := 435) (by decide +kernel), rfl⟩), (List.mem_filter.mpr ⟨List.mem_of_getElem? (i := 5) (by decide +kernel), rfl⟩)⟩, by decide⟩
theorem mo_X6_kindOf : m_MO yX6_kindOf cX6_kindOf 1 (some .int) 1 true := ⟨by decide +kernel, (List.mem_filter.mpr ⟨List.mem_of_getElem? (i := 455) (by decide +kernel), rfl⟩), (List.mem_filter.mpr ⟨List.mem_of_getElem? (i := 62) (by decide +kernel), rfl⟩), ⟨by decide +kernel, by decide +kernel, by decide +kernel⟩, (List.mem_filter.mpr ⟨List.mem_of_getElem? (i := 454) (by decide +kernel), rfl⟩), by decide⟩
theorem mo_X6_peek : m_MO yX6_peek cX6_peek 2 (some .int) 1 false := ⟨by decide +kernel, (List.mem_filter.mpr ⟨List.mem_of_getElem? (i := 431) (by decide +kernel), rfl⟩), (List.mem_filter.mpr ⟨List.mem_of_getElem? (i := 62) (by decide +kernel), rfl⟩), ⟨by decide +kernel, by decide +kernel, by decide +kernel⟩, ⟨(List.mem_filter.mpr ⟨List.mem_of_getElem? (i := 430) (by decide +kernel), rfl⟩), (List.mem_filter.mpr ⟨List.mem_of_getElem? (i := 4) (by decide +kernel), rfl⟩)⟩, by decide⟩
theorem mo_X6_readHouse : m_MO yX6_readHouse cX6_readHouse 7 (some .boolean) 1 false := ⟨by decide +kernel, (List.mem_filter.mpr ⟨List.mem_of_getElem? (i := 452) (by decide +kernel), rfl⟩), (List.mem_filter.mpr ⟨List.mem_of_getElem? (i := 62) (by decide +kernel), rfl⟩), ⟨by decide +kernel, by decide +kernel, by decide +kernel⟩, ⟨(List.mem_filter.mpr ⟨List.mem_of_getElem? (i := 451) (by decide +kernel), rfl⟩), (List.mem_filter.mpr ⟨List.mem_of_getElem? (i := 7) (by decide +kernel), rfl⟩)⟩, by decide⟩
theorem mo_X6_readInto : m_MO yX6_readInto cX6_readInto 4 (some .boolean) 1 false := ⟨by decide +kernel, (List.mem_filter.mpr ⟨List.mem_of_getElem? (i := 415) (by decide +kernel), rfl⟩), (List.mem_filter.mpr ⟨List.mem_of_getElem? (i := 62) (by decide +kernel), rfl⟩), ⟨by decide +kernel, by decide +kernel, by decide +kernel⟩, ⟨(List.mem_filter.mpr ⟨List.mem_of_getElem? (i := 413) (by decide +kernel), rfl⟩), (List.mem_filter.mpr ⟨List.mem_of_getElem? (i := 414) (by decide +kernel), rfl⟩)⟩, by decide⟩
theorem mo_X6_readLaw : m_MO yX6_readLaw cX6_readLaw 5 (some .boolean) 1 false := ⟨by decide +kernel, (List.mem_filter.mpr ⟨List.mem_of_getElem? (i := 423) (by decide +kernel), rfl⟩), (List.mem_filter.mpr ⟨List.mem_of_getElem? (i := 62) (by decide +kernel), rfl⟩), ⟨by decide +kernel, by decide +kernel, by decide +kernel⟩, ⟨(List.mem_filter.mpr ⟨List.mem_of_getElem? (i := 422) (by decide +kernel), rfl⟩), (List.mem_filter.mpr ⟨List.mem_of_getElem? (i := 2) (by decide +kernel), rfl⟩)⟩, by decide⟩
theorem mo_X6_readNumber : m_MO yX6_readNumber cX6_readNumber 5 (some .int) 2 false := ⟨by decide +kernel, (List.mem_filter.mpr ⟨List.mem_of_getElem? (i := 444) (by decide +kernel), rfl⟩), (List.mem_filter.mpr ⟨List.mem_of_getElem? (i := 62) (by decide +kernel), rfl⟩), ⟨by decide +kernel, by decide +kernel, by decide +kernel⟩, ⟨(List.mem_filter.mpr ⟨List.mem_of_getElem? (i := 443) (by decide +kernel), rfl⟩), (List.mem_filter.mpr ⟨List.mem_of_getElem? (i := 6) (by decide +kernel), rfl⟩)⟩, by decide⟩
theorem mo_X6_readSign : m_MO yX6_readSign cX6_readSign 2 (some .boolean) 1 false := ⟨by decide +kernel, (List.mem_filter.mpr ⟨List.mem_of_getElem? (i := 427) (by decide +kernel), rfl⟩), (List.mem_filter.mpr ⟨List.mem_of_getElem? (i := 62) (by decide +kernel), rfl⟩), ⟨by decide +kernel, by decide +kernel, by decide +kernel⟩, ⟨(List.mem_filter.mpr ⟨List.mem_of_getElem? (i := 426) (by decide +kernel), rfl⟩), (List.mem_filter.mpr ⟨List.mem_of_getElem? (i := 3) (by decide +kernel), rfl⟩)⟩, by decide⟩
theorem mo_X7_answer : m_MO yX7_answer cX7_answer 4 (some .int) 4 true := ⟨by decide +kernel, (List.mem_filter.mpr ⟨List.mem_of_getElem? (i := 778) (by decide +kernel), rfl⟩), (List.mem_filter.mpr ⟨List.mem_of_getElem? (i := 68) (by decide +kernel), rfl⟩), ⟨by decide +kernel, by decide +kernel, by decide +kernel⟩, (List.mem_filter.mpr ⟨List.mem_of_getElem? (i := 777) (by decide +kernel), rfl⟩), by decide⟩
theorem mo_X7_bodyFor : m_MO yX7_bodyFor cX7_bodyFor 3 (some .int) 2 true := ⟨by decide +kernel, (List.mem_filter.mpr ⟨List.mem_of_getElem? (i := 781) (by decide +kernel), rfl⟩), (List.mem_filter.mpr ⟨List.mem_of_getElem? (i := 68) (by decide +kernel), rfl⟩), ⟨by decide +kernel, by decide +kernel, by decide +kernel⟩, (List.mem_filter.mpr ⟨List.mem_of_getElem? (i := 780) (by decide +kernel), rfl⟩), by decide⟩
theorem mo_X7_give : m_MO yX7_give cX7_give 6 (some .int) 5 true := ⟨by decide +kernel, (List.mem_filter.mpr ⟨List.mem_of_getElem? (i := 789) (by decide +kernel), rfl⟩), (List.mem_filter.mpr ⟨List.mem_of_getElem? (i := 68) (by decide +kernel), rfl⟩), ⟨by decide +kernel, by decide +kernel, by decide +kernel⟩, (List.mem_filter.mpr ⟨List.mem_of_getElem? (i := 788) (by decide +kernel), rfl⟩), by decide⟩
theorem mo_X7_leave : m_MO yX7_leave cX7_leave 2 none 1 false := ⟨by decide +kernel, (List.mem_filter.mpr ⟨List.mem_of_getElem? (i := 793) (by decide +kernel), rfl⟩), (List.mem_filter.mpr ⟨List.mem_of_getElem? (i := 68) (by decide +kernel), rfl⟩), ⟨by decide +kernel, by decide +kernel, by decide +kernel⟩, ⟨(List.mem_filter.mpr ⟨List.mem_of_getElem? (i := 792) (by decide +kernel), rfl⟩), (List.mem_filter.mpr ⟨List.mem_of_getElem? (i := 14) (by decide +kernel), rfl⟩)⟩, by decide⟩
theorem mo_X9_aim : m_MO yX9_aim cX9_aim 5 (some .int) 3 false := ⟨by decide +kernel, (List.mem_filter.mpr ⟨List.mem_of_getElem? (i := 1115) (by decide +kernel), rfl⟩), (List.mem_filter.mpr ⟨List.mem_of_getElem? (i := 70) (by decide +kernel), rfl⟩), ⟨by decide +kernel, by decide +kernel, by decide +kernel⟩, ⟨(List.mem_filter.mpr ⟨List.mem_of_getElem? (i := 1113) (by decide +kernel), rfl⟩), (List.mem_filter.mpr ⟨List.mem_of_getElem? (i := 1114) (by decide +kernel), rfl⟩)⟩, by decide⟩
theorem mo_X9_as : m_MO yX9_as cX9_as 3 (some .int) 2 false := ⟨by decide +kernel, (List.mem_filter.mpr ⟨List.mem_of_getElem? (i := 1193) (by decide +kernel), rfl⟩), (List.mem_filter.mpr ⟨List.mem_of_getElem? (i := 70) (by decide +kernel), rfl⟩), ⟨by decide +kernel, by decide +kernel, by decide +kernel⟩, ⟨(List.mem_filter.mpr ⟨List.mem_of_getElem? (i := 1191) (by decide +kernel), rfl⟩), (List.mem_filter.mpr ⟨List.mem_of_getElem? (i := 1192) (by decide +kernel), rfl⟩)⟩, by decide⟩
theorem mo_X9_ask : m_MO yX9_ask cX9_ask 3 (some .int) 2 false := ⟨by decide +kernel, (List.mem_filter.mpr ⟨List.mem_of_getElem? (i := 1202) (by decide +kernel), rfl⟩), (List.mem_filter.mpr ⟨List.mem_of_getElem? (i := 70) (by decide +kernel), rfl⟩), ⟨by decide +kernel, by decide +kernel, by decide +kernel⟩, ⟨(List.mem_filter.mpr ⟨List.mem_of_getElem? (i := 1200) (by decide +kernel), rfl⟩), (List.mem_filter.mpr ⟨List.mem_of_getElem? (i := 1201) (by decide +kernel), rfl⟩)⟩, by decide⟩
theorem mo_X9_at : m_MO yX9_at cX9_at 3 (some .int) 2 false := ⟨by decide +kernel, (List.mem_filter.mpr ⟨List.mem_of_getElem? (i := 1074) (by decide +kernel), rfl⟩), (List.mem_filter.mpr ⟨List.mem_of_getElem? (i := 70) (by decide +kernel), rfl⟩), ⟨by decide +kernel, by decide +kernel, by decide +kernel⟩, ⟨(List.mem_filter.mpr ⟨List.mem_of_getElem? (i := 1072) (by decide +kernel), rfl⟩), (List.mem_filter.mpr ⟨List.mem_of_getElem? (i := 1073) (by decide +kernel), rfl⟩)⟩, by decide⟩
theorem mo_X9_begin : m_MO yX9_begin cX9_begin 2 none 1 false := ⟨by decide +kernel, (List.mem_filter.mpr ⟨List.mem_of_getElem? (i := 1210) (by decide +kernel), rfl⟩), (List.mem_filter.mpr ⟨List.mem_of_getElem? (i := 70) (by decide +kernel), rfl⟩), ⟨by decide +kernel, by decide +kernel, by decide +kernel⟩, ⟨(List.mem_filter.mpr ⟨List.mem_of_getElem? (i := 1209) (by decide +kernel), rfl⟩), (List.mem_filter.mpr ⟨List.mem_of_getElem? (i := 51) (by decide +kernel), rfl⟩)⟩, by decide⟩
theorem mo_X9_bits : m_MO yX9_bits cX9_bits 3 (some .int) 1 true := ⟨by decide +kernel, (List.mem_filter.mpr ⟨List.mem_of_getElem? (i := 1126) (by decide +kernel), rfl⟩), (List.mem_filter.mpr ⟨List.mem_of_getElem? (i := 70) (by decide +kernel), rfl⟩), ⟨by decide +kernel, by decide +kernel, by decide +kernel⟩, (List.mem_filter.mpr ⟨List.mem_of_getElem? (i := 1125) (by decide +kernel), rfl⟩), by decide⟩
theorem mo_X9_build : m_MO yX9_build cX9_build 5 (some .int) 3 false := ⟨by decide +kernel, (List.mem_filter.mpr ⟨List.mem_of_getElem? (i := 1056) (by decide +kernel), rfl⟩), (List.mem_filter.mpr ⟨List.mem_of_getElem? (i := 70) (by decide +kernel), rfl⟩), ⟨by decide +kernel, by decide +kernel, by decide +kernel⟩, ⟨(List.mem_filter.mpr ⟨List.mem_of_getElem? (i := 1054) (by decide +kernel), rfl⟩), (List.mem_filter.mpr ⟨List.mem_of_getElem? (i := 1055) (by decide +kernel), rfl⟩)⟩, by decide⟩
theorem mo_X9_copy : m_MO yX9_copy cX9_copy 9 (some .int) 5 false := ⟨by decide +kernel, (List.mem_filter.mpr ⟨List.mem_of_getElem? (i := 923) (by decide +kernel), rfl⟩), (List.mem_filter.mpr ⟨List.mem_of_getElem? (i := 70) (by decide +kernel), rfl⟩), ⟨by decide +kernel, by decide +kernel, by decide +kernel⟩, ⟨(List.mem_filter.mpr ⟨List.mem_of_getElem? (i := 921) (by decide +kernel), rfl⟩), (List.mem_filter.mpr ⟨List.mem_of_getElem? (i := 922) (by decide +kernel), rfl⟩)⟩, by decide⟩
theorem mo_X9_copyTown : m_MO yX9_copyTown cX9_copyTown 4 none 2 false := ⟨by decide +kernel, (List.mem_filter.mpr ⟨List.mem_of_getElem? (i := 992) (by decide +kernel), rfl⟩), (List.mem_filter.mpr ⟨List.mem_of_getElem? (i := 70) (by decide +kernel), rfl⟩), ⟨by decide +kernel, by decide +kernel, by decide +kernel⟩, ⟨(List.mem_filter.mpr ⟨List.mem_of_getElem? (i := 991) (by decide +kernel), rfl⟩), (List.mem_filter.mpr ⟨List.mem_of_getElem? (i := 29) (by decide +kernel), rfl⟩)⟩, by decide⟩
theorem mo_X9_count : m_MO yX9_count cX9_count 4 (some .int) 1 false := ⟨by decide +kernel, (List.mem_filter.mpr ⟨List.mem_of_getElem? (i := 1246) (by decide +kernel), rfl⟩), (List.mem_filter.mpr ⟨List.mem_of_getElem? (i := 70) (by decide +kernel), rfl⟩), ⟨by decide +kernel, by decide +kernel, by decide +kernel⟩, ⟨(List.mem_filter.mpr ⟨List.mem_of_getElem? (i := 1244) (by decide +kernel), rfl⟩), (List.mem_filter.mpr ⟨List.mem_of_getElem? (i := 1245) (by decide +kernel), rfl⟩)⟩, by decide⟩
theorem mo_X9_door : m_MO yX9_door cX9_door 3 (some .int) 2 false := ⟨by decide +kernel, (List.mem_filter.mpr ⟨List.mem_of_getElem? (i := 1048) (by decide +kernel), rfl⟩), (List.mem_filter.mpr ⟨List.mem_of_getElem? (i := 70) (by decide +kernel), rfl⟩), ⟨by decide +kernel, by decide +kernel, by decide +kernel⟩, ⟨(List.mem_filter.mpr ⟨List.mem_of_getElem? (i := 1046) (by decide +kernel), rfl⟩), (List.mem_filter.mpr ⟨List.mem_of_getElem? (i := 1047) (by decide +kernel), rfl⟩)⟩, by decide⟩
theorem mo_X9_doorMark : m_MO yX9_doorMark cX9_doorMark 2 (some .int) 1 false := ⟨by decide +kernel, (List.mem_filter.mpr ⟨List.mem_of_getElem? (i := 1226) (by decide +kernel), rfl⟩), (List.mem_filter.mpr ⟨List.mem_of_getElem? (i := 70) (by decide +kernel), rfl⟩), ⟨by decide +kernel, by decide +kernel, by decide +kernel⟩, ⟨(List.mem_filter.mpr ⟨List.mem_of_getElem? (i := 1225) (by decide +kernel), rfl⟩), (List.mem_filter.mpr ⟨List.mem_of_getElem? (i := 55) (by decide +kernel), rfl⟩)⟩, by decide⟩
theorem mo_X9_doorSize : m_MO yX9_doorSize cX9_doorSize 3 (some .int) 1 false := ⟨by decide +kernel, (List.mem_filter.mpr ⟨List.mem_of_getElem? (i := 1214) (by decide +kernel), rfl⟩), (List.mem_filter.mpr ⟨List.mem_of_getElem? (i := 70) (by decide +kernel), rfl⟩), ⟨by decide +kernel, by decide +kernel, by decide +kernel⟩, ⟨(List.mem_filter.mpr ⟨List.mem_of_getElem? (i := 1213) (by decide +kernel), rfl⟩), (List.mem_filter.mpr ⟨List.mem_of_getElem? (i := 52) (by decide +kernel), rfl⟩)⟩, by decide⟩
theorem mo_X9_drawn : m_MO yX9_drawn cX9_drawn 10 (some .int) 3 false := ⟨by decide +kernel, (List.mem_filter.mpr ⟨List.mem_of_getElem? (i := 1174) (by decide +kernel), rfl⟩), (List.mem_filter.mpr ⟨List.mem_of_getElem? (i := 70) (by decide +kernel), rfl⟩), ⟨by decide +kernel, by decide +kernel, by decide +kernel⟩, ⟨(List.mem_filter.mpr ⟨List.mem_of_getElem? (i := 1172) (by decide +kernel), rfl⟩), (List.mem_filter.mpr ⟨List.mem_of_getElem? (i := 1173) (by decide +kernel), rfl⟩)⟩, by decide⟩
theorem mo_X9_drop : m_MO yX9_drop cX9_drop 3 (some .int) 1 false := ⟨by decide +kernel, (List.mem_filter.mpr ⟨List.mem_of_getElem? (i := 931) (by decide +kernel), rfl⟩), (List.mem_filter.mpr ⟨List.mem_of_getElem? (i := 70) (by decide +kernel), rfl⟩), ⟨by decide +kernel, by decide +kernel, by decide +kernel⟩, ⟨(List.mem_filter.mpr ⟨List.mem_of_getElem? (i := 929) (by decide +kernel), rfl⟩), (List.mem_filter.mpr ⟨List.mem_of_getElem? (i := 930) (by decide +kernel), rfl⟩)⟩, by decide⟩
theorem mo_X9_fault : m_MO yX9_fault cX9_fault 1 (some .int) 0 false := ⟨by decide +kernel, (List.mem_filter.mpr ⟨List.mem_of_getElem? (i := 996) (by decide +kernel), rfl⟩), (List.mem_filter.mpr ⟨List.mem_of_getElem? (i := 70) (by decide +kernel), rfl⟩), ⟨by decide +kernel, by decide +kernel, by decide +kernel⟩, ⟨(List.mem_filter.mpr ⟨List.mem_of_getElem? (i := 994) (by decide +kernel), rfl⟩), (List.mem_filter.mpr ⟨List.mem_of_getElem? (i := 995) (by decide +kernel), rfl⟩)⟩, by decide⟩
theorem mo_X9_feed : m_MO yX9_feed cX9_feed 2 (some .int) 1 false := ⟨by decide +kernel, (List.mem_filter.mpr ⟨List.mem_of_getElem? (i := 935) (by decide +kernel), rfl⟩), (List.mem_filter.mpr ⟨List.mem_of_getElem? (i := 70) (by decide +kernel), rfl⟩), ⟨by decide +kernel, by decide +kernel, by decide +kernel⟩, ⟨(List.mem_filter.mpr ⟨List.mem_of_getElem? (i := 933) (by decide +kernel), rfl⟩), (List.mem_filter.mpr ⟨List.mem_of_getElem? (i := 934) (by decide +kernel), rfl⟩)⟩, by decide⟩
theorem mo_X9_fewest : m_MO yX9_fewest cX9_fewest 8 (some .int) 3 false := ⟨by decide +kernel, (List.mem_filter.mpr ⟨List.mem_of_getElem? (i := 1119) (by decide +kernel), rfl⟩), (List.mem_filter.mpr ⟨List.mem_of_getElem? (i := 70) (by decide +kernel), rfl⟩), ⟨by decide +kernel, by decide +kernel, by decide +kernel⟩, ⟨(List.mem_filter.mpr ⟨List.mem_of_getElem? (i := 1118) (by decide +kernel), rfl⟩), (List.mem_filter.mpr ⟨List.mem_of_getElem? (i := 44) (by decide +kernel), rfl⟩)⟩, by decide⟩
theorem mo_X9_find : m_MO yX9_find cX9_find 2 (some .int) 1 false := ⟨by decide +kernel, (List.mem_filter.mpr ⟨List.mem_of_getElem? (i := 907) (by decide +kernel), rfl⟩), (List.mem_filter.mpr ⟨List.mem_of_getElem? (i := 70) (by decide +kernel), rfl⟩), ⟨by decide +kernel, by decide +kernel, by decide +kernel⟩, ⟨(List.mem_filter.mpr ⟨List.mem_of_getElem? (i := 906) (by decide +kernel), rfl⟩), (List.mem_filter.mpr ⟨List.mem_of_getElem? (i := 16) (by decide +kernel), rfl⟩)⟩, by decide⟩
theorem mo_X9_goes : m_MO yX9_goes cX9_goes 6 (some .int) 2 false := ⟨by decide +kernel, (List.mem_filter.mpr ⟨List.mem_of_getElem? (i := 1026) (by decide +kernel), rfl⟩), (List.mem_filter.mpr ⟨List.mem_of_getElem? (i := 70) (by decide +kernel), rfl⟩), ⟨by decide +kernel, by decide +kernel, by decide +kernel⟩, ⟨(List.mem_filter.mpr ⟨List.mem_of_getElem? (i := 1025) (by decide +kernel), rfl⟩), (List.mem_filter.mpr ⟨List.mem_of_getElem? (i := 34) (by decide +kernel), rfl⟩)⟩, by decide⟩
theorem mo_X9_gotByAll : m_MO yX9_gotByAll cX9_gotByAll 3 (some .int) 0 false := ⟨by decide +kernel, (List.mem_filter.mpr ⟨List.mem_of_getElem? (i := 1250) (by decide +kernel), rfl⟩), (List.mem_filter.mpr ⟨List.mem_of_getElem? (i := 70) (by decide +kernel), rfl⟩), ⟨by decide +kernel, by decide +kernel, by decide +kernel⟩, ⟨(List.mem_filter.mpr ⟨List.mem_of_getElem? (i := 1249) (by decide +kernel), rfl⟩), (List.mem_filter.mpr ⟨List.mem_of_getElem? (i := 59) (by decide +kernel), rfl⟩)⟩, by decide⟩
theorem mo_X9_has : m_MO yX9_has cX9_has 2 (some .boolean) 2 true := ⟨by decide +kernel, (List.mem_filter.mpr ⟨List.mem_of_getElem? (i := 1036) (by decide +kernel), rfl⟩), (List.mem_filter.mpr ⟨List.mem_of_getElem? (i := 70) (by decide +kernel), rfl⟩), ⟨by decide +kernel, by decide +kernel, by decide +kernel⟩, (List.mem_filter.mpr ⟨List.mem_of_getElem? (i := 1035) (by decide +kernel), rfl⟩), by decide⟩
theorem mo_X9_hill : m_MO yX9_hill cX9_hill 2 (some .int) 0 false := ⟨by decide +kernel, (List.mem_filter.mpr ⟨List.mem_of_getElem? (i := 941) (by decide +kernel), rfl⟩), (List.mem_filter.mpr ⟨List.mem_of_getElem? (i := 70) (by decide +kernel), rfl⟩), ⟨by decide +kernel, by decide +kernel, by decide +kernel⟩, ⟨(List.mem_filter.mpr ⟨List.mem_of_getElem? (i := 939) (by decide +kernel), rfl⟩), (List.mem_filter.mpr ⟨List.mem_of_getElem? (i := 940) (by decide +kernel), rfl⟩)⟩, by decide⟩
theorem mo_X9_holdsIt : m_MO yX9_holdsIt cX9_holdsIt 4 (some .boolean) 2 false := ⟨by decide +kernel, (List.mem_filter.mpr ⟨List.mem_of_getElem? (i := 1033) (by decide +kernel), rfl⟩), (List.mem_filter.mpr ⟨List.mem_of_getElem? (i := 70) (by decide +kernel), rfl⟩), ⟨by decide +kernel, by decide +kernel, by decide +kernel⟩, ⟨(List.mem_filter.mpr ⟨List.mem_of_getElem? (i := 1032) (by decide +kernel), rfl⟩), (List.mem_filter.mpr ⟨List.mem_of_getElem? (i := 35) (by decide +kernel), rfl⟩)⟩, by decide⟩
theorem mo_X9_house : m_MO yX9_house cX9_house 3 (some .int) 2 false := ⟨by decide +kernel, (List.mem_filter.mpr ⟨List.mem_of_getElem? (i := 1070) (by decide +kernel), rfl⟩), (List.mem_filter.mpr ⟨List.mem_of_getElem? (i := 70) (by decide +kernel), rfl⟩), ⟨by decide +kernel, by decide +kernel, by decide +kernel⟩, ⟨(List.mem_filter.mpr ⟨List.mem_of_getElem? (i := 1068) (by decide +kernel), rfl⟩), (List.mem_filter.mpr ⟨List.mem_of_getElem? (i := 1069) (by decide +kernel), rfl⟩)⟩, by decide⟩
theorem mo_X9_houseAt : m_MO yX9_houseAt cX9_houseAt 5 (some .int) 3 false := ⟨by decide +kernel, (List.mem_filter.mpr ⟨List.mem_of_getElem? (i := 986) (by decide +kernel), rfl⟩), (List.mem_filter.mpr ⟨List.mem_of_getElem? (i := 70) (by decide +kernel), rfl⟩), ⟨by decide +kernel, by decide +kernel, by decide +kernel⟩, ⟨(List.mem_filter.mpr ⟨List.mem_of_getElem? (i := 985) (by decide +kernel), rfl⟩), (List.mem_filter.mpr ⟨List.mem_of_getElem? (i := 28) (by decide +kernel), rfl⟩)⟩, by decide⟩
theorem mo_X9_image : m_MO yX9_image cX9_image 2 (some .int) 1 false := ⟨by decide +kernel, (List.mem_filter.mpr ⟨List.mem_of_getElem? (i := 1181) (by decide +kernel), rfl⟩), (List.mem_filter.mpr ⟨List.mem_of_getElem? (i := 70) (by decide +kernel), rfl⟩), ⟨by decide +kernel, by decide +kernel, by decide +kernel⟩, ⟨(List.mem_filter.mpr ⟨List.mem_of_getElem? (i := 1179) (by decide +kernel), rfl⟩), (List.mem_filter.mpr ⟨List.mem_of_getElem? (i := 1180) (by decide +kernel), rfl⟩)⟩, by decide⟩
theorem mo_X9_in : m_MO yX9_in cX9_in 6 (some .boolean) 3 true := ⟨by decide +kernel, (List.mem_filter.mpr ⟨List.mem_of_getElem? (i := 901) (by decide +kernel), rfl⟩), (List.mem_filter.mpr ⟨List.mem_of_getElem? (i := 70) (by decide +kernel), rfl⟩), ⟨by decide +kernel, by decide +kernel, by decide +kernel⟩, (List.mem_filter.mpr ⟨List.mem_of_getElem? (i := 900) (by decide +kernel), rfl⟩), by decide⟩
theorem mo_X9_isFigure : m_MO yX9_isFigure cX9_isFigure 2 (some .boolean) 1 false := ⟨by decide +kernel, (List.mem_filter.mpr ⟨List.mem_of_getElem? (i := 969) (by decide +kernel), rfl⟩), (List.mem_filter.mpr ⟨List.mem_of_getElem? (i := 70) (by decide +kernel), rfl⟩), ⟨by decide +kernel, by decide +kernel, by decide +kernel⟩, ⟨(List.mem_filter.mpr ⟨List.mem_of_getElem? (i := 968) (by decide +kernel), rfl⟩), (List.mem_filter.mpr ⟨List.mem_of_getElem? (i := 25) (by decide +kernel), rfl⟩)⟩, by decide⟩
theorem mo_X9_isHouse : m_MO yX9_isHouse cX9_isHouse 2 (some .boolean) 1 false := ⟨by decide +kernel, (List.mem_filter.mpr ⟨List.mem_of_getElem? (i := 1052) (by decide +kernel), rfl⟩), (List.mem_filter.mpr ⟨List.mem_of_getElem? (i := 70) (by decide +kernel), rfl⟩), ⟨by decide +kernel, by decide +kernel, by decide +kernel⟩, ⟨(List.mem_filter.mpr ⟨List.mem_of_getElem? (i := 1051) (by decide +kernel), rfl⟩), (List.mem_filter.mpr ⟨List.mem_of_getElem? (i := 38) (by decide +kernel), rfl⟩)⟩, by decide⟩
theorem mo_X9_isLetter : m_MO yX9_isLetter cX9_isLetter 2 (some .boolean) 1 false := ⟨by decide +kernel, (List.mem_filter.mpr ⟨List.mem_of_getElem? (i := 957) (by decide +kernel), rfl⟩), (List.mem_filter.mpr ⟨List.mem_of_getElem? (i := 70) (by decide +kernel), rfl⟩), ⟨by decide +kernel, by decide +kernel, by decide +kernel⟩, ⟨(List.mem_filter.mpr ⟨List.mem_of_getElem? (i := 956) (by decide +kernel), rfl⟩), (List.mem_filter.mpr ⟨List.mem_of_getElem? (i := 22) (by decide +kernel), rfl⟩)⟩, by decide⟩
theorem mo_X9_isOf : m_MO yX9_isOf cX9_isOf 4 (some .boolean) 2 false := ⟨by decide +kernel, (List.mem_filter.mpr ⟨List.mem_of_getElem? (i := 1198) (by decide +kernel), rfl⟩), (List.mem_filter.mpr ⟨List.mem_of_getElem? (i := 70) (by decide +kernel), rfl⟩), ⟨by decide +kernel, by decide +kernel, by decide +kernel⟩, ⟨(List.mem_filter.mpr ⟨List.mem_of_getElem? (i := 1197) (by decide +kernel), rfl⟩), (List.mem_filter.mpr ⟨List.mem_of_getElem? (i := 49) (by decide +kernel), rfl⟩)⟩, by decide⟩
theorem mo_X9_isPlace : m_MO yX9_isPlace cX9_isPlace 3 (some .boolean) 2 false := ⟨by decide +kernel, (List.mem_filter.mpr ⟨List.mem_of_getElem? (i := 1060) (by decide +kernel), rfl⟩), (List.mem_filter.mpr ⟨List.mem_of_getElem? (i := 70) (by decide +kernel), rfl⟩), ⟨by decide +kernel, by decide +kernel, by decide +kernel⟩, ⟨(List.mem_filter.mpr ⟨List.mem_of_getElem? (i := 1059) (by decide +kernel), rfl⟩), (List.mem_filter.mpr ⟨List.mem_of_getElem? (i := 39) (by decide +kernel), rfl⟩)⟩, by decide⟩
theorem mo_X9_isRow : m_MO yX9_isRow cX9_isRow 1 (some .boolean) 1 true := ⟨by decide +kernel, (List.mem_filter.mpr ⟨List.mem_of_getElem? (i := 897) (by decide +kernel), rfl⟩), (List.mem_filter.mpr ⟨List.mem_of_getElem? (i := 70) (by decide +kernel), rfl⟩), ⟨by decide +kernel, by decide +kernel, by decide +kernel⟩, (List.mem_filter.mpr ⟨List.mem_of_getElem? (i := 896) (by decide +kernel), rfl⟩), by decide⟩
theorem mo_X9_isSo : m_MO yX9_isSo cX9_isSo 6 (some .boolean) 3 false := ⟨by decide +kernel, (List.mem_filter.mpr ⟨List.mem_of_getElem? (i := 1161) (by decide +kernel), rfl⟩), (List.mem_filter.mpr ⟨List.mem_of_getElem? (i := 70) (by decide +kernel), rfl⟩), ⟨by decide +kernel, by decide +kernel, by decide +kernel⟩, ⟨(List.mem_filter.mpr ⟨List.mem_of_getElem? (i := 1160) (by decide +kernel), rfl⟩), (List.mem_filter.mpr ⟨List.mem_of_getElem? (i := 48) (by decide +kernel), rfl⟩)⟩, by decide⟩
theorem mo_X9_isSort : m_MO yX9_isSort cX9_isSort 1 (some .boolean) 0 false := ⟨by decide +kernel, (List.mem_filter.mpr ⟨List.mem_of_getElem? (i := 975) (by decide +kernel), rfl⟩), (List.mem_filter.mpr ⟨List.mem_of_getElem? (i := 70) (by decide +kernel), rfl⟩), ⟨by decide +kernel, by decide +kernel, by decide +kernel⟩, ⟨(List.mem_filter.mpr ⟨List.mem_of_getElem? (i := 974) (by decide +kernel), rfl⟩), (List.mem_filter.mpr ⟨List.mem_of_getElem? (i := 26) (by decide +kernel), rfl⟩)⟩, by decide⟩
theorem mo_X9_isSpan : m_MO yX9_isSpan cX9_isSpan 4 (some .boolean) 3 false := ⟨by decide +kernel, (List.mem_filter.mpr ⟨List.mem_of_getElem? (i := 927) (by decide +kernel), rfl⟩), (List.mem_filter.mpr ⟨List.mem_of_getElem? (i := 70) (by decide +kernel), rfl⟩), ⟨by decide +kernel, by decide +kernel, by decide +kernel⟩, ⟨(List.mem_filter.mpr ⟨List.mem_of_getElem? (i := 926) (by decide +kernel), rfl⟩), (List.mem_filter.mpr ⟨List.mem_of_getElem? (i := 18) (by decide +kernel), rfl⟩)⟩, by decide⟩
theorem mo_X9_keepPast : m_MO yX9_keepPast cX9_keepPast 2 none 0 false := ⟨by decide +kernel, (List.mem_filter.mpr ⟨List.mem_of_getElem? (i := 1010) (by decide +kernel), rfl⟩), (List.mem_filter.mpr ⟨List.mem_of_getElem? (i := 70) (by decide +kernel), rfl⟩), ⟨by decide +kernel, by decide +kernel, by decide +kernel⟩, ⟨(List.mem_filter.mpr ⟨List.mem_of_getElem? (i := 1009) (by decide +kernel), rfl⟩), (List.mem_filter.mpr ⟨List.mem_of_getElem? (i := 30) (by decide +kernel), rfl⟩)⟩, by decide⟩
theorem mo_X9_kept : m_MO yX9_kept cX9_kept 1 (some .int) 1 true := ⟨by decide +kernel, (List.mem_filter.mpr ⟨List.mem_of_getElem? (i := 1029) (by decide +kernel), rfl⟩), (List.mem_filter.mpr ⟨List.mem_of_getElem? (i := 70) (by decide +kernel), rfl⟩), ⟨by decide +kernel, by decide +kernel, by decide +kernel⟩, (List.mem_filter.mpr ⟨List.mem_of_getElem? (i := 1028) (by decide +kernel), rfl⟩), by decide⟩
theorem mo_X9_kind : m_MO yX9_kind cX9_kind 2 (some .int) 1 false := ⟨by decide +kernel, (List.mem_filter.mpr ⟨List.mem_of_getElem? (i := 1189) (by decide +kernel), rfl⟩), (List.mem_filter.mpr ⟨List.mem_of_getElem? (i := 70) (by decide +kernel), rfl⟩), ⟨by decide +kernel, by decide +kernel, by decide +kernel⟩, ⟨(List.mem_filter.mpr ⟨List.mem_of_getElem? (i := 1187) (by decide +kernel), rfl⟩), (List.mem_filter.mpr ⟨List.mem_of_getElem? (i := 1188) (by decide +kernel), rfl⟩)⟩, by decide⟩
theorem mo_X9_kindOfLetter : m_MO yX9_kindOfLetter cX9_kindOfLetter 1 (some .int) 1 true := ⟨by decide +kernel, (List.mem_filter.mpr ⟨List.mem_of_getElem? (i := 978) (by decide +kernel), rfl⟩), (List.mem_filter.mpr ⟨List.mem_of_getElem? (i := 70) (by decide +kernel), rfl⟩), ⟨by decide +kernel, by decide +kernel, by decide +kernel⟩, (List.mem_filter.mpr ⟨List.mem_of_getElem? (i := 977) (by decide +kernel), rfl⟩), by decide⟩
theorem mo_X9_layTried : m_MO yX9_layTried cX9_layTried 1 none 0 false := ⟨by decide +kernel, (List.mem_filter.mpr ⟨List.mem_of_getElem? (i := 1087) (by decide +kernel), rfl⟩), (List.mem_filter.mpr ⟨List.mem_of_getElem? (i := 70) (by decide +kernel), rfl⟩), ⟨by decide +kernel, by decide +kernel, by decide +kernel⟩, ⟨(List.mem_filter.mpr ⟨List.mem_of_getElem? (i := 1086) (by decide +kernel), rfl⟩), (List.mem_filter.mpr ⟨List.mem_of_getElem? (i := 41) (by decide +kernel), rfl⟩)⟩, by decide⟩
theorem mo_X9_left : m_MO yX9_left cX9_left 3 (some .int) 1 false := ⟨by decide +kernel, (List.mem_filter.mpr ⟨List.mem_of_getElem? (i := 1099) (by decide +kernel), rfl⟩), (List.mem_filter.mpr ⟨List.mem_of_getElem? (i := 70) (by decide +kernel), rfl⟩), ⟨by decide +kernel, by decide +kernel, by decide +kernel⟩, ⟨(List.mem_filter.mpr ⟨List.mem_of_getElem? (i := 1097) (by decide +kernel), rfl⟩), (List.mem_filter.mpr ⟨List.mem_of_getElem? (i := 1098) (by decide +kernel), rfl⟩)⟩, by decide⟩
theorem mo_X9_lentMark : m_MO yX9_lentMark cX9_lentMark 2 (some .int) 1 false := ⟨by decide +kernel, (List.mem_filter.mpr ⟨List.mem_of_getElem? (i := 1230) (by decide +kernel), rfl⟩), (List.mem_filter.mpr ⟨List.mem_of_getElem? (i := 70) (by decide +kernel), rfl⟩), ⟨by decide +kernel, by decide +kernel, by decide +kernel⟩, ⟨(List.mem_filter.mpr ⟨List.mem_of_getElem? (i := 1229) (by decide +kernel), rfl⟩), (List.mem_filter.mpr ⟨List.mem_of_getElem? (i := 56) (by decide +kernel), rfl⟩)⟩, by decide⟩
theorem mo_X9_lentSize : m_MO yX9_lentSize cX9_lentSize 2 (some .int) 1 false := ⟨by decide +kernel, (List.mem_filter.mpr ⟨List.mem_of_getElem? (i := 1218) (by decide +kernel), rfl⟩), (List.mem_filter.mpr ⟨List.mem_of_getElem? (i := 70) (by decide +kernel), rfl⟩), ⟨by decide +kernel, by decide +kernel, by decide +kernel⟩, ⟨(List.mem_filter.mpr ⟨List.mem_of_getElem? (i := 1217) (by decide +kernel), rfl⟩), (List.mem_filter.mpr ⟨List.mem_of_getElem? (i := 53) (by decide +kernel), rfl⟩)⟩, by decide⟩
theorem mo_X9_line : m_MO yX9_line cX9_line 4 (some .int) 2 false := ⟨by decide +kernel, (List.mem_filter.mpr ⟨List.mem_of_getElem? (i := 1095) (by decide +kernel), rfl⟩), (List.mem_filter.mpr ⟨List.mem_of_getElem? (i := 70) (by decide +kernel), rfl⟩), ⟨by decide +kernel, by decide +kernel, by decide +kernel⟩, ⟨(List.mem_filter.mpr ⟨List.mem_of_getElem? (i := 1093) (by decide +kernel), rfl⟩), (List.mem_filter.mpr ⟨List.mem_of_getElem? (i := 1094) (by decide +kernel), rfl⟩)⟩, by decide⟩
theorem mo_X9_mark : m_MO yX9_mark cX9_mark 2 (some .int) 1 false := ⟨by decide +kernel, (List.mem_filter.mpr ⟨List.mem_of_getElem? (i := 1222) (by decide +kernel), rfl⟩), (List.mem_filter.mpr ⟨List.mem_of_getElem? (i := 70) (by decide +kernel), rfl⟩), ⟨by decide +kernel, by decide +kernel, by decide +kernel⟩, ⟨(List.mem_filter.mpr ⟨List.mem_of_getElem? (i := 1221) (by decide +kernel), rfl⟩), (List.mem_filter.mpr ⟨List.mem_of_getElem? (i := 54) (by decide +kernel), rfl⟩)⟩, by decide⟩
theorem mo_X9_narrow : m_MO yX9_narrow cX9_narrow 2 (some .int) 2 true := ⟨by decide +kernel, (List.mem_filter.mpr ⟨List.mem_of_getElem? (i := 919) (by decide +kernel), rfl⟩), (List.mem_filter.mpr ⟨List.mem_of_getElem? (i := 70) (by decide +kernel), rfl⟩), ⟨by decide +kernel, by decide +kernel, by decide +kernel⟩, (List.mem_filter.mpr ⟨List.mem_of_getElem? (i := 918) (by decide +kernel), rfl⟩), by decide⟩
theorem mo_X9_next : m_MO yX9_next cX9_next 3 (some .int) 1 false := ⟨by decide +kernel, (List.mem_filter.mpr ⟨List.mem_of_getElem? (i := 1103) (by decide +kernel), rfl⟩), (List.mem_filter.mpr ⟨List.mem_of_getElem? (i := 70) (by decide +kernel), rfl⟩), ⟨by decide +kernel, by decide +kernel, by decide +kernel⟩, ⟨(List.mem_filter.mpr ⟨List.mem_of_getElem? (i := 1101) (by decide +kernel), rfl⟩), (List.mem_filter.mpr ⟨List.mem_of_getElem? (i := 1102) (by decide +kernel), rfl⟩)⟩, by decide⟩
theorem mo_X9_noItems : m_MO yX9_noItems cX9_noItems 4 (some .int) 3 false := ⟨by decide +kernel, (List.mem_filter.mpr ⟨List.mem_of_getElem? (i := 1157) (by decide +kernel), rfl⟩), (List.mem_filter.mpr ⟨List.mem_of_getElem? (i := 70) (by decide +kernel), rfl⟩), ⟨by decide +kernel, by decide +kernel, by decide +kernel⟩, ⟨(List.mem_filter.mpr ⟨List.mem_of_getElem? (i := 1156) (by decide +kernel), rfl⟩), (List.mem_filter.mpr ⟨List.mem_of_getElem? (i := 47) (by decide +kernel), rfl⟩)⟩, by decide⟩
theorem mo_X9_noYears : m_MO yX9_noYears cX9_noYears 2 (some .int) 1 false := ⟨by decide +kernel, (List.mem_filter.mpr ⟨List.mem_of_getElem? (i := 1082) (by decide +kernel), rfl⟩), (List.mem_filter.mpr ⟨List.mem_of_getElem? (i := 70) (by decide +kernel), rfl⟩), ⟨by decide +kernel, by decide +kernel, by decide +kernel⟩, ⟨(List.mem_filter.mpr ⟨List.mem_of_getElem? (i := 1081) (by decide +kernel), rfl⟩), (List.mem_filter.mpr ⟨List.mem_of_getElem? (i := 40) (by decide +kernel), rfl⟩)⟩, by decide⟩
theorem mo_X9_often : m_MO yX9_often cX9_often 3 (some .int) 2 false := ⟨by decide +kernel, (List.mem_filter.mpr ⟨List.mem_of_getElem? (i := 1107) (by decide +kernel), rfl⟩), (List.mem_filter.mpr ⟨List.mem_of_getElem? (i := 70) (by decide +kernel), rfl⟩), ⟨by decide +kernel, by decide +kernel, by decide +kernel⟩, ⟨(List.mem_filter.mpr ⟨List.mem_of_getElem? (i := 1105) (by decide +kernel), rfl⟩), (List.mem_filter.mpr ⟨List.mem_of_getElem? (i := 1106) (by decide +kernel), rfl⟩)⟩, by decide⟩
theorem mo_X9_oftenTried : m_MO yX9_oftenTried cX9_oftenTried 5 (some .int) 2 false := ⟨by decide +kernel, (List.mem_filter.mpr ⟨List.mem_of_getElem? (i := 1111) (by decide +kernel), rfl⟩), (List.mem_filter.mpr ⟨List.mem_of_getElem? (i := 70) (by decide +kernel), rfl⟩), ⟨by decide +kernel, by decide +kernel, by decide +kernel⟩, ⟨(List.mem_filter.mpr ⟨List.mem_of_getElem? (i := 1110) (by decide +kernel), rfl⟩), (List.mem_filter.mpr ⟨List.mem_of_getElem? (i := 43) (by decide +kernel), rfl⟩)⟩, by decide⟩
theorem mo_X9_pass : m_MO yX9_pass cX9_pass 3 (some .int) 1 false := ⟨by decide +kernel, (List.mem_filter.mpr ⟨List.mem_of_getElem? (i := 1014) (by decide +kernel), rfl⟩), (List.mem_filter.mpr ⟨List.mem_of_getElem? (i := 70) (by decide +kernel), rfl⟩), ⟨by decide +kernel, by decide +kernel, by decide +kernel⟩, ⟨(List.mem_filter.mpr ⟨List.mem_of_getElem? (i := 1013) (by decide +kernel), rfl⟩), (List.mem_filter.mpr ⟨List.mem_of_getElem? (i := 31) (by decide +kernel), rfl⟩)⟩, by decide⟩
theorem mo_X9_peace : m_MO yX9_peace cX9_peace 4 (some .int) 1 false := ⟨by decide +kernel, (List.mem_filter.mpr ⟨List.mem_of_getElem? (i := 1147) (by decide +kernel), rfl⟩), (List.mem_filter.mpr ⟨List.mem_of_getElem? (i := 70) (by decide +kernel), rfl⟩), ⟨by decide +kernel, by decide +kernel, by decide +kernel⟩, ⟨(List.mem_filter.mpr ⟨List.mem_of_getElem? (i := 1145) (by decide +kernel), rfl⟩), (List.mem_filter.mpr ⟨List.mem_of_getElem? (i := 1146) (by decide +kernel), rfl⟩)⟩, by decide⟩
theorem mo_X9_play : m_MO yX9_play cX9_play 9 (some .int) 3 false := ⟨by decide +kernel, (List.mem_filter.mpr ⟨List.mem_of_getElem? (i := 1169) (by decide +kernel), rfl⟩), (List.mem_filter.mpr ⟨List.mem_of_getElem? (i := 70) (by decide +kernel), rfl⟩), ⟨by decide +kernel, by decide +kernel, by decide +kernel⟩, ⟨(List.mem_filter.mpr ⟨List.mem_of_getElem? (i := 1167) (by decide +kernel), rfl⟩), (List.mem_filter.mpr ⟨List.mem_of_getElem? (i := 1168) (by decide +kernel), rfl⟩)⟩, by decide⟩
theorem mo_X9_reads : m_MO yX9_reads cX9_reads 2 (some .boolean) 0 false := ⟨by decide +kernel, (List.mem_filter.mpr ⟨List.mem_of_getElem? (i := 945) (by decide +kernel), rfl⟩), (List.mem_filter.mpr ⟨List.mem_of_getElem? (i := 70) (by decide +kernel), rfl⟩), ⟨by decide +kernel, by decide +kernel, by decide +kernel⟩, ⟨(List.mem_filter.mpr ⟨List.mem_of_getElem? (i := 944) (by decide +kernel), rfl⟩), (List.mem_filter.mpr ⟨List.mem_of_getElem? (i := 19) (by decide +kernel), rfl⟩)⟩, by decide⟩
theorem mo_X9_readsHouse : m_MO yX9_readsHouse cX9_readsHouse 4 (some .boolean) 0 false := ⟨by decide +kernel, (List.mem_filter.mpr ⟨List.mem_of_getElem? (i := 982) (by decide +kernel), rfl⟩), (List.mem_filter.mpr ⟨List.mem_of_getElem? (i := 70) (by decide +kernel), rfl⟩), ⟨by decide +kernel, by decide +kernel, by decide +kernel⟩, ⟨(List.mem_filter.mpr ⟨List.mem_of_getElem? (i := 981) (by decide +kernel), rfl⟩), (List.mem_filter.mpr ⟨List.mem_of_getElem? (i := 27) (by decide +kernel), rfl⟩)⟩, by decide⟩
theorem mo_X9_readsLaw : m_MO yX9_readsLaw cX9_readsLaw 2 (some .boolean) 0 false := ⟨by decide +kernel, (List.mem_filter.mpr ⟨List.mem_of_getElem? (i := 949) (by decide +kernel), rfl⟩), (List.mem_filter.mpr ⟨List.mem_of_getElem? (i := 70) (by decide +kernel), rfl⟩), ⟨by decide +kernel, by decide +kernel, by decide +kernel⟩, ⟨(List.mem_filter.mpr ⟨List.mem_of_getElem? (i := 948) (by decide +kernel), rfl⟩), (List.mem_filter.mpr ⟨List.mem_of_getElem? (i := 20) (by decide +kernel), rfl⟩)⟩, by decide⟩
theorem mo_X9_readsNumber : m_MO yX9_readsNumber cX9_readsNumber 4 (some .boolean) 2 false := ⟨by decide +kernel, (List.mem_filter.mpr ⟨List.mem_of_getElem? (i := 965) (by decide +kernel), rfl⟩), (List.mem_filter.mpr ⟨List.mem_of_getElem? (i := 70) (by decide +kernel), rfl⟩), ⟨by decide +kernel, by decide +kernel, by decide +kernel⟩, ⟨(List.mem_filter.mpr ⟨List.mem_of_getElem? (i := 964) (by decide +kernel), rfl⟩), (List.mem_filter.mpr ⟨List.mem_of_getElem? (i := 24) (by decide +kernel), rfl⟩)⟩, by decide⟩
theorem mo_X9_refuse : m_MO yX9_refuse cX9_refuse 2 (some .boolean) 1 false := ⟨by decide +kernel, (List.mem_filter.mpr ⟨List.mem_of_getElem? (i := 961) (by decide +kernel), rfl⟩), (List.mem_filter.mpr ⟨List.mem_of_getElem? (i := 70) (by decide +kernel), rfl⟩), ⟨by decide +kernel, by decide +kernel, by decide +kernel⟩, ⟨(List.mem_filter.mpr ⟨List.mem_of_getElem? (i := 960) (by decide +kernel), rfl⟩), (List.mem_filter.mpr ⟨List.mem_of_getElem? (i := 23) (by decide +kernel), rfl⟩)⟩, by decide⟩
theorem mo_X9_restore : m_MO yX9_restore cX9_restore 2 (some .int) 1 false := ⟨by decide +kernel, (List.mem_filter.mpr ⟨List.mem_of_getElem? (i := 1185) (by decide +kernel), rfl⟩), (List.mem_filter.mpr ⟨List.mem_of_getElem? (i := 70) (by decide +kernel), rfl⟩), ⟨by decide +kernel, by decide +kernel, by decide +kernel⟩, ⟨(List.mem_filter.mpr ⟨List.mem_of_getElem? (i := 1183) (by decide +kernel), rfl⟩), (List.mem_filter.mpr ⟨List.mem_of_getElem? (i := 1184) (by decide +kernel), rfl⟩)⟩, by decide⟩
theorem mo_X9_rests : m_MO yX9_rests cX9_rests 3 (some .int) 1 false := ⟨by decide +kernel, (List.mem_filter.mpr ⟨List.mem_of_getElem? (i := 1078) (by decide +kernel), rfl⟩), (List.mem_filter.mpr ⟨List.mem_of_getElem? (i := 70) (by decide +kernel), rfl⟩), ⟨by decide +kernel, by decide +kernel, by decide +kernel⟩, ⟨(List.mem_filter.mpr ⟨List.mem_of_getElem? (i := 1076) (by decide +kernel), rfl⟩), (List.mem_filter.mpr ⟨List.mem_of_getElem? (i := 1077) (by decide +kernel), rfl⟩)⟩, by decide⟩
theorem mo_X9_restsIn : m_MO yX9_restsIn cX9_restsIn 2 (some .int) 1 false := ⟨by decide +kernel, (List.mem_filter.mpr ⟨List.mem_of_getElem? (i := 1091) (by decide +kernel), rfl⟩), (List.mem_filter.mpr ⟨List.mem_of_getElem? (i := 70) (by decide +kernel), rfl⟩), ⟨by decide +kernel, by decide +kernel, by decide +kernel⟩, ⟨(List.mem_filter.mpr ⟨List.mem_of_getElem? (i := 1090) (by decide +kernel), rfl⟩), (List.mem_filter.mpr ⟨List.mem_of_getElem? (i := 42) (by decide +kernel), rfl⟩)⟩, by decide⟩
theorem mo_X9_restsOtherwise : m_MO yX9_restsOtherwise cX9_restsOtherwise 3 (some .int) 2 false := ⟨by decide +kernel, (List.mem_filter.mpr ⟨List.mem_of_getElem? (i := 1123) (by decide +kernel), rfl⟩), (List.mem_filter.mpr ⟨List.mem_of_getElem? (i := 70) (by decide +kernel), rfl⟩), ⟨by decide +kernel, by decide +kernel, by decide +kernel⟩, ⟨(List.mem_filter.mpr ⟨List.mem_of_getElem? (i := 1122) (by decide +kernel), rfl⟩), (List.mem_filter.mpr ⟨List.mem_of_getElem? (i := 45) (by decide +kernel), rfl⟩)⟩, by decide⟩
theorem mo_X9_rolls : m_MO yX9_rolls cX9_rolls 8 (some .int) 4 false := ⟨by decide +kernel, (List.mem_filter.mpr ⟨List.mem_of_getElem? (i := 1151) (by decide +kernel), rfl⟩), (List.mem_filter.mpr ⟨List.mem_of_getElem? (i := 70) (by decide +kernel), rfl⟩), ⟨by decide +kernel, by decide +kernel, by decide +kernel⟩, ⟨(List.mem_filter.mpr ⟨List.mem_of_getElem? (i := 1149) (by decide +kernel), rfl⟩), (List.mem_filter.mpr ⟨List.mem_of_getElem? (i := 1150) (by decide +kernel), rfl⟩)⟩, by decide⟩
theorem mo_X9_rollsNow : m_MO yX9_rollsNow cX9_rollsNow 2 (some .int) 1 false := ⟨by decide +kernel, (List.mem_filter.mpr ⟨List.mem_of_getElem? (i := 1018) (by decide +kernel), rfl⟩), (List.mem_filter.mpr ⟨List.mem_of_getElem? (i := 70) (by decide +kernel), rfl⟩), ⟨by decide +kernel, by decide +kernel, by decide +kernel⟩, ⟨(List.mem_filter.mpr ⟨List.mem_of_getElem? (i := 1017) (by decide +kernel), rfl⟩), (List.mem_filter.mpr ⟨List.mem_of_getElem? (i := 32) (by decide +kernel), rfl⟩)⟩, by decide⟩
theorem mo_X9_row : m_MO yX9_row cX9_row 5 (some .int) 3 false := ⟨by decide +kernel, (List.mem_filter.mpr ⟨List.mem_of_getElem? (i := 894) (by decide +kernel), rfl⟩), (List.mem_filter.mpr ⟨List.mem_of_getElem? (i := 70) (by decide +kernel), rfl⟩), ⟨by decide +kernel, by decide +kernel, by decide +kernel⟩, ⟨(List.mem_filter.mpr ⟨List.mem_of_getElem? (i := 892) (by decide +kernel), rfl⟩), (List.mem_filter.mpr ⟨List.mem_of_getElem? (i := 893) (by decide +kernel), rfl⟩)⟩, by decide⟩
theorem mo_X9_set : m_MO yX9_set cX9_set 4 (some .int) 3 false := ⟨by decide +kernel, (List.mem_filter.mpr ⟨List.mem_of_getElem? (i := 916) (by decide +kernel), rfl⟩), (List.mem_filter.mpr ⟨List.mem_of_getElem? (i := 70) (by decide +kernel), rfl⟩), ⟨by decide +kernel, by decide +kernel, by decide +kernel⟩, ⟨(List.mem_filter.mpr ⟨List.mem_of_getElem? (i := 914) (by decide +kernel), rfl⟩), (List.mem_filter.mpr ⟨List.mem_of_getElem? (i := 915) (by decide +kernel), rfl⟩)⟩, by decide⟩
theorem mo_X9_shun : m_MO yX9_shun cX9_shun 5 (some .int) 3 false := ⟨by decide +kernel, (List.mem_filter.mpr ⟨List.mem_of_getElem? (i := 1130) (by decide +kernel), rfl⟩), (List.mem_filter.mpr ⟨List.mem_of_getElem? (i := 70) (by decide +kernel), rfl⟩), ⟨by decide +kernel, by decide +kernel, by decide +kernel⟩, ⟨(List.mem_filter.mpr ⟨List.mem_of_getElem? (i := 1128) (by decide +kernel), rfl⟩), (List.mem_filter.mpr ⟨List.mem_of_getElem? (i := 1129) (by decide +kernel), rfl⟩)⟩, by decide⟩
theorem mo_X9_sign : m_MO yX9_sign cX9_sign 2 (some .boolean) 1 false := ⟨by decide +kernel, (List.mem_filter.mpr ⟨List.mem_of_getElem? (i := 953) (by decide +kernel), rfl⟩), (List.mem_filter.mpr ⟨List.mem_of_getElem? (i := 70) (by decide +kernel), rfl⟩), ⟨by decide +kernel, by decide +kernel, by decide +kernel⟩, ⟨(List.mem_filter.mpr ⟨List.mem_of_getElem? (i := 952) (by decide +kernel), rfl⟩), (List.mem_filter.mpr ⟨List.mem_of_getElem? (i := 21) (by decide +kernel), rfl⟩)⟩, by decide⟩
theorem mo_X9_site : m_MO yX9_site cX9_site 11 (some .int) 3 false := ⟨by decide +kernel, (List.mem_filter.mpr ⟨List.mem_of_getElem? (i := 1134) (by decide +kernel), rfl⟩), (List.mem_filter.mpr ⟨List.mem_of_getElem? (i := 70) (by decide +kernel), rfl⟩), ⟨by decide +kernel, by decide +kernel, by decide +kernel⟩, ⟨(List.mem_filter.mpr ⟨List.mem_of_getElem? (i := 1132) (by decide +kernel), rfl⟩), (List.mem_filter.mpr ⟨List.mem_of_getElem? (i := 1133) (by decide +kernel), rfl⟩)⟩, by decide⟩
theorem mo_X9_sizeOf : m_MO yX9_sizeOf cX9_sizeOf 2 (some .int) 1 false := ⟨by decide +kernel, (List.mem_filter.mpr ⟨List.mem_of_getElem? (i := 1206) (by decide +kernel), rfl⟩), (List.mem_filter.mpr ⟨List.mem_of_getElem? (i := 70) (by decide +kernel), rfl⟩), ⟨by decide +kernel, by decide +kernel, by decide +kernel⟩, ⟨(List.mem_filter.mpr ⟨List.mem_of_getElem? (i := 1205) (by decide +kernel), rfl⟩), (List.mem_filter.mpr ⟨List.mem_of_getElem? (i := 50) (by decide +kernel), rfl⟩)⟩, by decide⟩
theorem mo_X9_slows : m_MO yX9_slows cX9_slows 4 (some .int) 2 false := ⟨by decide +kernel, (List.mem_filter.mpr ⟨List.mem_of_getElem? (i := 1040) (by decide +kernel), rfl⟩), (List.mem_filter.mpr ⟨List.mem_of_getElem? (i := 70) (by decide +kernel), rfl⟩), ⟨by decide +kernel, by decide +kernel, by decide +kernel⟩, ⟨(List.mem_filter.mpr ⟨List.mem_of_getElem? (i := 1039) (by decide +kernel), rfl⟩), (List.mem_filter.mpr ⟨List.mem_of_getElem? (i := 36) (by decide +kernel), rfl⟩)⟩, by decide⟩
theorem mo_X9_sorts : m_MO yX9_sorts cX9_sorts 8 (some .int) 4 false := ⟨by decide +kernel, (List.mem_filter.mpr ⟨List.mem_of_getElem? (i := 1165) (by decide +kernel), rfl⟩), (List.mem_filter.mpr ⟨List.mem_of_getElem? (i := 70) (by decide +kernel), rfl⟩), ⟨by decide +kernel, by decide +kernel, by decide +kernel⟩, ⟨(List.mem_filter.mpr ⟨List.mem_of_getElem? (i := 1163) (by decide +kernel), rfl⟩), (List.mem_filter.mpr ⟨List.mem_of_getElem? (i := 1164) (by decide +kernel), rfl⟩)⟩, by decide⟩
theorem mo_X9_speed : m_MO yX9_speed cX9_speed 3 (some .int) 1 false := ⟨by decide +kernel, (List.mem_filter.mpr ⟨List.mem_of_getElem? (i := 1065) (by decide +kernel), rfl⟩), (List.mem_filter.mpr ⟨List.mem_of_getElem? (i := 70) (by decide +kernel), rfl⟩), ⟨by decide +kernel, by decide +kernel, by decide +kernel⟩, ⟨(List.mem_filter.mpr ⟨List.mem_of_getElem? (i := 1063) (by decide +kernel), rfl⟩), (List.mem_filter.mpr ⟨List.mem_of_getElem? (i := 1064) (by decide +kernel), rfl⟩)⟩, by decide⟩
theorem mo_X9_startOf : m_MO yX9_startOf cX9_startOf 2 (some .int) 1 false := ⟨by decide +kernel, (List.mem_filter.mpr ⟨List.mem_of_getElem? (i := 1022) (by decide +kernel), rfl⟩), (List.mem_filter.mpr ⟨List.mem_of_getElem? (i := 70) (by decide +kernel), rfl⟩), ⟨by decide +kernel, by decide +kernel, by decide +kernel⟩, ⟨(List.mem_filter.mpr ⟨List.mem_of_getElem? (i := 1021) (by decide +kernel), rfl⟩), (List.mem_filter.mpr ⟨List.mem_of_getElem? (i := 33) (by decide +kernel), rfl⟩)⟩, by decide⟩
theorem mo_X9_status : m_MO yX9_status cX9_status 1 (some .int) 0 false := ⟨by decide +kernel, (List.mem_filter.mpr ⟨List.mem_of_getElem? (i := 1254) (by decide +kernel), rfl⟩), (List.mem_filter.mpr ⟨List.mem_of_getElem? (i := 70) (by decide +kernel), rfl⟩), ⟨by decide +kernel, by decide +kernel, by decide +kernel⟩, ⟨(List.mem_filter.mpr ⟨List.mem_of_getElem? (i := 1252) (by decide +kernel), rfl⟩), (List.mem_filter.mpr ⟨List.mem_of_getElem? (i := 1253) (by decide +kernel), rfl⟩)⟩, by decide⟩
theorem mo_X9_sulks : m_MO yX9_sulks cX9_sulks 1 (some .int) 0 false := ⟨by decide +kernel, (List.mem_filter.mpr ⟨List.mem_of_getElem? (i := 1139) (by decide +kernel), rfl⟩), (List.mem_filter.mpr ⟨List.mem_of_getElem? (i := 70) (by decide +kernel), rfl⟩), ⟨by decide +kernel, by decide +kernel, by decide +kernel⟩, ⟨(List.mem_filter.mpr ⟨List.mem_of_getElem? (i := 1137) (by decide +kernel), rfl⟩), (List.mem_filter.mpr ⟨List.mem_of_getElem? (i := 1138) (by decide +kernel), rfl⟩)⟩, by decide⟩
theorem mo_X9_sulksTried : m_MO yX9_sulksTried cX9_sulksTried 7 (some .int) 0 false := ⟨by decide +kernel, (List.mem_filter.mpr ⟨List.mem_of_getElem? (i := 1143) (by decide +kernel), rfl⟩), (List.mem_filter.mpr ⟨List.mem_of_getElem? (i := 70) (by decide +kernel), rfl⟩), ⟨by decide +kernel, by decide +kernel, by decide +kernel⟩, ⟨(List.mem_filter.mpr ⟨List.mem_of_getElem? (i := 1142) (by decide +kernel), rfl⟩), (List.mem_filter.mpr ⟨List.mem_of_getElem? (i := 46) (by decide +kernel), rfl⟩)⟩, by decide⟩
theorem mo_X9_trace : m_MO yX9_trace cX9_trace 2 (some .int) 1 false := ⟨by decide +kernel, (List.mem_filter.mpr ⟨List.mem_of_getElem? (i := 1242) (by decide +kernel), rfl⟩), (List.mem_filter.mpr ⟨List.mem_of_getElem? (i := 70) (by decide +kernel), rfl⟩), ⟨by decide +kernel, by decide +kernel, by decide +kernel⟩, ⟨(List.mem_filter.mpr ⟨List.mem_of_getElem? (i := 1240) (by decide +kernel), rfl⟩), (List.mem_filter.mpr ⟨List.mem_of_getElem? (i := 1241) (by decide +kernel), rfl⟩)⟩, by decide⟩
theorem mo_X9_turns : m_MO yX9_turns cX9_turns 6 (some .int) 3 false := ⟨by decide +kernel, (List.mem_filter.mpr ⟨List.mem_of_getElem? (i := 1044) (by decide +kernel), rfl⟩), (List.mem_filter.mpr ⟨List.mem_of_getElem? (i := 70) (by decide +kernel), rfl⟩), ⟨by decide +kernel, by decide +kernel, by decide +kernel⟩, ⟨(List.mem_filter.mpr ⟨List.mem_of_getElem? (i := 1043) (by decide +kernel), rfl⟩), (List.mem_filter.mpr ⟨List.mem_of_getElem? (i := 37) (by decide +kernel), rfl⟩)⟩, by decide⟩
theorem mo_X9_undo : m_MO yX9_undo cX9_undo 1 (some .int) 0 false := ⟨by decide +kernel, (List.mem_filter.mpr ⟨List.mem_of_getElem? (i := 1000) (by decide +kernel), rfl⟩), (List.mem_filter.mpr ⟨List.mem_of_getElem? (i := 70) (by decide +kernel), rfl⟩), ⟨by decide +kernel, by decide +kernel, by decide +kernel⟩, ⟨(List.mem_filter.mpr ⟨List.mem_of_getElem? (i := 998) (by decide +kernel), rfl⟩), (List.mem_filter.mpr ⟨List.mem_of_getElem? (i := 999) (by decide +kernel), rfl⟩)⟩, by decide⟩
theorem mo_X9_wallMark : m_MO yX9_wallMark cX9_wallMark 3 (some .int) 1 false := ⟨by decide +kernel, (List.mem_filter.mpr ⟨List.mem_of_getElem? (i := 1238) (by decide +kernel), rfl⟩), (List.mem_filter.mpr ⟨List.mem_of_getElem? (i := 70) (by decide +kernel), rfl⟩), ⟨by decide +kernel, by decide +kernel, by decide +kernel⟩, ⟨(List.mem_filter.mpr ⟨List.mem_of_getElem? (i := 1237) (by decide +kernel), rfl⟩), (List.mem_filter.mpr ⟨List.mem_of_getElem? (i := 58) (by decide +kernel), rfl⟩)⟩, by decide⟩
theorem mo_X9_wallSize : m_MO yX9_wallSize cX9_wallSize 2 (some .int) 1 false := ⟨by decide +kernel, (List.mem_filter.mpr ⟨List.mem_of_getElem? (i := 1234) (by decide +kernel), rfl⟩), (List.mem_filter.mpr ⟨List.mem_of_getElem? (i := 70) (by decide +kernel), rfl⟩), ⟨by decide +kernel, by decide +kernel, by decide +kernel⟩, ⟨(List.mem_filter.mpr ⟨List.mem_of_getElem? (i := 1233) (by decide +kernel), rfl⟩), (List.mem_filter.mpr ⟨List.mem_of_getElem? (i := 57) (by decide +kernel), rfl⟩)⟩, by decide⟩
theorem mo_X9_well : m_MO yX9_well cX9_well 2 (some .int) 1 false := ⟨by decide +kernel, (List.mem_filter.mpr ⟨List.mem_of_getElem? (i := 912) (by decide +kernel), rfl⟩), (List.mem_filter.mpr ⟨List.mem_of_getElem? (i := 70) (by decide +kernel), rfl⟩), ⟨by decide +kernel, by decide +kernel, by decide +kernel⟩, ⟨(List.mem_filter.mpr ⟨List.mem_of_getElem? (i := 911) (by decide +kernel), rfl⟩), (List.mem_filter.mpr ⟨List.mem_of_getElem? (i := 17) (by decide +kernel), rfl⟩)⟩, by decide⟩
theorem mo_X9_years : m_MO yX9_years cX9_years 4 (some .int) 1 false := ⟨by decide +kernel, (List.mem_filter.mpr ⟨List.mem_of_getElem? (i := 1005) (by decide +kernel), rfl⟩), (List.mem_filter.mpr ⟨List.mem_of_getElem? (i := 70) (by decide +kernel), rfl⟩), ⟨by decide +kernel, by decide +kernel, by decide +kernel⟩, ⟨(List.mem_filter.mpr ⟨List.mem_of_getElem? (i := 1003) (by decide +kernel), rfl⟩), (List.mem_filter.mpr ⟨List.mem_of_getElem? (i := 1004) (by decide +kernel), rfl⟩)⟩, by decide⟩
theorem mo_J6_bitCount_0f7a4 : m_MO yJ6_bitCount_0f7a4 cJ6_bitCount_0f7a4 1 (some .int) 1 true := ⟨by decide +kernel, (List.mem_filter.mpr ⟨List.mem_of_getElem? (i := 637) (by decide +kernel), rfl⟩), (List.mem_filter.mpr ⟨List.mem_of_getElem? (i := 73) (by decide +kernel), rfl⟩), ⟨by decide +kernel, by decide +kernel, by decide +kernel⟩, (List.mem_filter.mpr ⟨List.mem_of_getElem? (i := 636) (by decide +kernel), rfl⟩), by decide⟩
theorem mo_J6_lowestOneBit_0f7a4 : m_MO yJ6_lowestOneBit_0f7a4 cJ6_lowestOneBit_0f7a4 1 (some .int) 1 true := ⟨by decide +kernel, (List.mem_filter.mpr ⟨List.mem_of_getElem? (i := 685) (by decide +kernel), rfl⟩), (List.mem_filter.mpr ⟨List.mem_of_getElem? (i := 73) (by decide +kernel), rfl⟩), ⟨by decide +kernel, by decide +kernel, by decide +kernel⟩, (List.mem_filter.mpr ⟨List.mem_of_getElem? (i := 684) (by decide +kernel), rfl⟩), by decide⟩
theorem kc_X8_66 : Cond.constant RX8 66 (-1000001) ∈ m_gw := (List.mem_filter.mpr ⟨List.mem_of_getElem? (i := 362) (by decide +kernel), rfl⟩)
theorem kc_X8_110 : Cond.constant RX8 110 (-1000003) ∈ m_gw := (List.mem_filter.mpr ⟨List.mem_of_getElem? (i := 407) (by decide +kernel), rfl⟩)
theorem kc_X8_121 : Cond.constant RX8 121 (-1000100) ∈ m_gw := (List.mem_filter.mpr ⟨List.mem_of_getElem? (i := 468) (by decide +kernel), rfl⟩)
theorem kc_X8_138 : Cond.constant RX8 138 (-1000002) ∈ m_gw := (List.mem_filter.mpr ⟨List.mem_of_getElem? (i := 485) (by decide +kernel), rfl⟩)
theorem kc_X8_217 : Cond.constant RX8 217 (-1000000) ∈ m_gw := (List.mem_filter.mpr ⟨List.mem_of_getElem? (i := 546) (by decide +kernel), rfl⟩)
theorem kc_X8_272 : Cond.constant RX8 272 (999999) ∈ m_gw := (List.mem_filter.mpr ⟨List.mem_of_getElem? (i := 729) (by decide +kernel), rfl⟩)
theorem kc_X8_306 : Cond.constant RX8 306 (-1000010) ∈ m_gw := (List.mem_filter.mpr ⟨List.mem_of_getElem? (i := 367) (by decide +kernel), rfl⟩)
theorem kc_X5_109 : Cond.constantLong RX5 109 (16807) ∈ m_gw := (List.mem_filter.mpr ⟨List.mem_of_getElem? (i := 738) (by decide +kernel), rfl⟩)
theorem kc_X5_111 : Cond.constantLong RX5 111 (2147483647) ∈ m_gw := (List.mem_filter.mpr ⟨List.mem_of_getElem? (i := 739) (by decide +kernel), rfl⟩)
theorem kc_X5_113 : Cond.constantLong RX5 113 (3) ∈ m_gw := (List.mem_filter.mpr ⟨List.mem_of_getElem? (i := 740) (by decide +kernel), rfl⟩)
theorem kc_X5_115 : Cond.constantLong RX5 115 (7) ∈ m_gw := (List.mem_filter.mpr ⟨List.mem_of_getElem? (i := 741) (by decide +kernel), rfl⟩)
theorem kc_X9_57 : Cond.constant RX9 57 (-1000010) ∈ m_gw := (List.mem_filter.mpr ⟨List.mem_of_getElem? (i := 908) (by decide +kernel), rfl⟩)
theorem kc_X9_58 : Cond.constantLong RX9 58 (7) ∈ m_gw := (List.mem_filter.mpr ⟨List.mem_of_getElem? (i := 898) (by decide +kernel), rfl⟩)
theorem kc_X9_68 : Cond.constantLong RX9 68 (2) ∈ m_gw := (List.mem_filter.mpr ⟨List.mem_of_getElem? (i := 902) (by decide +kernel), rfl⟩)
theorem kc_X9_70 : Cond.constant RX9 70 (-1000001) ∈ m_gw := (List.mem_filter.mpr ⟨List.mem_of_getElem? (i := 903) (by decide +kernel), rfl⟩)
theorem kc_X9_86 : Cond.constantLong RX9 86 (255) ∈ m_gw := (List.mem_filter.mpr ⟨List.mem_of_getElem? (i := 936) (by decide +kernel), rfl⟩)
theorem kc_X9_91 : Cond.constant RX9 91 (-1000003) ∈ m_gw := (List.mem_filter.mpr ⟨List.mem_of_getElem? (i := 937) (by decide +kernel), rfl⟩)
theorem kc_X9_95 : Cond.constantLong RX9 95 (48) ∈ m_gw := (List.mem_filter.mpr ⟨List.mem_of_getElem? (i := 970) (by decide +kernel), rfl⟩)
theorem kc_X9_97 : Cond.constantLong RX9 97 (57) ∈ m_gw := (List.mem_filter.mpr ⟨List.mem_of_getElem? (i := 971) (by decide +kernel), rfl⟩)
theorem kc_X9_128 : Cond.constant RX9 128 (-1000000) ∈ m_gw := (List.mem_filter.mpr ⟨List.mem_of_getElem? (i := 987) (by decide +kernel), rfl⟩)
theorem kc_X9_145 : Cond.constant RX9 145 (-1000100) ∈ m_gw := (List.mem_filter.mpr ⟨List.mem_of_getElem? (i := 988) (by decide +kernel), rfl⟩)
theorem kc_X9_157 : Cond.constant RX9 157 (-1000002) ∈ m_gw := (List.mem_filter.mpr ⟨List.mem_of_getElem? (i := 1001) (by decide +kernel), rfl⟩)
theorem kc_X9_185 : Cond.constantLong RX9 185 (24) ∈ m_gw := (List.mem_filter.mpr ⟨List.mem_of_getElem? (i := 1006) (by decide +kernel), rfl⟩)
theorem kc_X9_196 : Cond.constantLong RX9 196 (6) ∈ m_gw := (List.mem_filter.mpr ⟨List.mem_of_getElem? (i := 1061) (by decide +kernel), rfl⟩)
theorem kc_X9_201 : Cond.constantLong RX9 201 (9) ∈ m_gw := (List.mem_filter.mpr ⟨List.mem_of_getElem? (i := 1066) (by decide +kernel), rfl⟩)
theorem kc_X9_203 : Cond.constantLong RX9 203 (60) ∈ m_gw := (List.mem_filter.mpr ⟨List.mem_of_getElem? (i := 1083) (by decide +kernel), rfl⟩)
theorem kc_X9_227 : Cond.constantLong RX9 227 (20) ∈ m_gw := (List.mem_filter.mpr ⟨List.mem_of_getElem? (i := 1135) (by decide +kernel), rfl⟩)
theorem kc_X9_233 : Cond.constantLong RX9 233 (16) ∈ m_gw := (List.mem_filter.mpr ⟨List.mem_of_getElem? (i := 1152) (by decide +kernel), rfl⟩)
theorem kc_X9_235 : Cond.constantLong RX9 235 (3) ∈ m_gw := (List.mem_filter.mpr ⟨List.mem_of_getElem? (i := 1153) (by decide +kernel), rfl⟩)
theorem kc_X9_243 : Cond.constantLong RX9 243 (10) ∈ m_gw := (List.mem_filter.mpr ⟨List.mem_of_getElem? (i := 1170) (by decide +kernel), rfl⟩)
theorem kc_X9_245 : Cond.constantLong RX9 245 (999999) ∈ m_gw := (List.mem_filter.mpr ⟨List.mem_of_getElem? (i := 1175) (by decide +kernel), rfl⟩)
theorem kc_X9_247 : Cond.constantLong RX9 247 (16807) ∈ m_gw := (List.mem_filter.mpr ⟨List.mem_of_getElem? (i := 1176) (by decide +kernel), rfl⟩)
theorem kc_X9_249 : Cond.constantLong RX9 249 (2147483647) ∈ m_gw := (List.mem_filter.mpr ⟨List.mem_of_getElem? (i := 1177) (by decide +kernel), rfl⟩)
theorem kc_X9_251 : Cond.constantLong RX9 251 (5) ∈ m_gw := (List.mem_filter.mpr ⟨List.mem_of_getElem? (i := 1194) (by decide +kernel), rfl⟩)
theorem kc_J6_265 : Cond.constant RJ6 265 (1431655765) ∈ m_gw := (List.mem_filter.mpr ⟨List.mem_of_getElem? (i := 638) (by decide +kernel), rfl⟩)
theorem kc_J6_266 : Cond.constant RJ6 266 (858993459) ∈ m_gw := (List.mem_filter.mpr ⟨List.mem_of_getElem? (i := 639) (by decide +kernel), rfl⟩)
theorem kc_J6_267 : Cond.constant RJ6 267 (252645135) ∈ m_gw := (List.mem_filter.mpr ⟨List.mem_of_getElem? (i := 640) (by decide +kernel), rfl⟩)
theorem m_acw : (Cond.native arraycopyName ∈ m_gw ∧ Cond.static arraycopyName ∈ m_gw) ∧ Cond.initialized "java/lang/System" ∈ m_gw := ⟨⟨(List.mem_filter.mpr ⟨List.mem_of_getElem? (i := 394) (by decide +kernel), rfl⟩), (List.mem_filter.mpr ⟨List.mem_of_getElem? (i := 393) (by decide +kernel), rfl⟩)⟩, (List.mem_filter.mpr ⟨List.mem_of_getElem? (i := 71) (by decide +kernel), rfl⟩)⟩
end
section
section SIMCALL2
variable {SL d : Nat} {y : MethodName} {cc : ByteArray} {nL : Nat} {ret : Option FieldType} {pc n : Nat} {L L2 st : List Value} {g : m_G} {Q : Option Int32 → m_G → Prop}
def m_push (r : Option Int32) (st : List Value) : List Value := match r with
  | none => st
  | some v => .int v :: st
theorem m_push_eq (r : Option Int32) (st : List Value) : (r.map Value.int).toList ++ st = m_push r st := by cases r <;> rfl
theorem s_cv0 {ix k t : Nat} {y2 : MethodName} {cc2 : ByteArray} {nL2 : Nat} {ret2 : Option FieldType} {L0 : List Value} (hd : decode cc pc = .ok (.invokevirtual ix, 3)) (hn : n = pc + 3) (hM : m_MO y2 cc2 nL2 ret2 0 false) (hl : m_ML y.cls ix y2) (ho : (m_sh k).1 = t) (ht : t < 10) (hy : (m_cr t).1 = y2.cls) (hL0 : m_ent (.ref k :: []) ++ List.replicate (nL2 - (m_ent (.ref k :: [])).length) .null = L0) (hle : (m_ent (.ref k :: [])).length ≤ nL2) (hst : (st.map fun v => v.category).sum ≤ 8) (hS : Sim SL d y2 cc2 nL2 ret2 0 L0 [] g (fun r g' => Sim SL (d + 1) y cc nL ret n L (m_push r st) g' Q)) : Sim SL (d + 1) y cc nL ret pc L (.ref k :: st) g Q :=
  s_invv (As := []) hd hn hM hl ho ht hy rfl rfl hL0 hle hst hS (fun r g' h => by rw [m_push_eq]; exact h)
theorem s_cv1 {ix k t : Nat} {y2 : MethodName} {cc2 : ByteArray} {nL2 : Nat} {ret2 : Option FieldType} {a1 : Value} {L0 : List Value} (hd : decode cc pc = .ok (.invokevirtual ix, 3)) (hn : n = pc + 3) (hM : m_MO y2 cc2 nL2 ret2 1 false) (hl : m_ML y.cls ix y2) (ho : (m_sh k).1 = t) (ht : t < 10) (hy : (m_cr t).1 = y2.cls) (hL0 : m_ent (.ref k :: [a1]) ++ List.replicate (nL2 - (m_ent (.ref k :: [a1])).length) .null = L0) (hle : (m_ent (.ref k :: [a1])).length ≤ nL2) (hst : (st.map fun v => v.category).sum ≤ 8) (hS : Sim SL d y2 cc2 nL2 ret2 0 L0 [] g (fun r g' => Sim SL (d + 1) y cc nL ret n L (m_push r st) g' Q)) : Sim SL (d + 1) y cc nL ret pc L (a1 :: .ref k :: st) g Q :=
  s_invv (As := [a1]) hd hn hM hl ho ht hy rfl rfl hL0 hle hst hS (fun r g' h => by rw [m_push_eq]; exact h)
theorem s_cs1 {ix : Nat} {y2 : MethodName} {cc2 : ByteArray} {nL2 : Nat} {ret2 : Option FieldType} {a1 : Value} {L0 : List Value} (hd : decode cc pc = .ok (.invokestatic ix, 3)) (hn : n = pc + 3) (hM : m_MO y2 cc2 nL2 ret2 1 true) (hl : m_ML y.cls ix y2) (hL0 : m_ent [a1] ++ List.replicate (nL2 - (m_ent [a1]).length) .null = L0) (hle : (m_ent [a1]).length ≤ nL2) (hst : (st.map fun v => v.category).sum ≤ 8) (hS : Sim SL d y2 cc2 nL2 ret2 0 L0 [] g (fun r g' => Sim SL (d + 1) y cc nL ret n L (m_push r st) g' Q)) : Sim SL (d + 1) y cc nL ret pc L (a1 :: st) g Q :=
  s_invs (As := [a1]) hd hn hM hl rfl rfl hL0 hle hst hS (fun r g' h => by rw [m_push_eq]; exact h)
theorem s_cv2 {ix k t : Nat} {y2 : MethodName} {cc2 : ByteArray} {nL2 : Nat} {ret2 : Option FieldType} {a1 a2 : Value} {L0 : List Value} (hd : decode cc pc = .ok (.invokevirtual ix, 3)) (hn : n = pc + 3) (hM : m_MO y2 cc2 nL2 ret2 2 false) (hl : m_ML y.cls ix y2) (ho : (m_sh k).1 = t) (ht : t < 10) (hy : (m_cr t).1 = y2.cls) (hL0 : m_ent (.ref k :: [a1, a2]) ++ List.replicate (nL2 - (m_ent (.ref k :: [a1, a2])).length) .null = L0) (hle : (m_ent (.ref k :: [a1, a2])).length ≤ nL2) (hst : (st.map fun v => v.category).sum ≤ 8) (hS : Sim SL d y2 cc2 nL2 ret2 0 L0 [] g (fun r g' => Sim SL (d + 1) y cc nL ret n L (m_push r st) g' Q)) : Sim SL (d + 1) y cc nL ret pc L (a2 :: a1 :: .ref k :: st) g Q :=
  s_invv (As := [a1, a2]) hd hn hM hl ho ht hy rfl rfl hL0 hle hst hS (fun r g' h => by rw [m_push_eq]; exact h)
theorem s_cs2 {ix : Nat} {y2 : MethodName} {cc2 : ByteArray} {nL2 : Nat} {ret2 : Option FieldType} {a1 a2 : Value} {L0 : List Value} (hd : decode cc pc = .ok (.invokestatic ix, 3)) (hn : n = pc + 3) (hM : m_MO y2 cc2 nL2 ret2 2 true) (hl : m_ML y.cls ix y2) (hL0 : m_ent [a1, a2] ++ List.replicate (nL2 - (m_ent [a1, a2]).length) .null = L0) (hle : (m_ent [a1, a2]).length ≤ nL2) (hst : (st.map fun v => v.category).sum ≤ 8) (hS : Sim SL d y2 cc2 nL2 ret2 0 L0 [] g (fun r g' => Sim SL (d + 1) y cc nL ret n L (m_push r st) g' Q)) : Sim SL (d + 1) y cc nL ret pc L (a2 :: a1 :: st) g Q :=
  s_invs (As := [a1, a2]) hd hn hM hl rfl rfl hL0 hle hst hS (fun r g' h => by rw [m_push_eq]; exact h)
theorem s_cv3 {ix k t : Nat} {y2 : MethodName} {cc2 : ByteArray} {nL2 : Nat} {ret2 : Option FieldType} {a1 a2 a3 : Value} {L0 : List Value} (hd : decode cc pc = .ok (.invokevirtual ix, 3)) (hn : n = pc + 3) (hM : m_MO y2 cc2 nL2 ret2 3 false) (hl : m_ML y.cls ix y2) (ho : (m_sh k).1 = t) (ht : t < 10) (hy : (m_cr t).1 = y2.cls) (hL0 : m_ent (.ref k :: [a1, a2, a3]) ++ List.replicate (nL2 - (m_ent (.ref k :: [a1, a2, a3])).length) .null = L0) (hle : (m_ent (.ref k :: [a1, a2, a3])).length ≤ nL2) (hst : (st.map fun v => v.category).sum ≤ 8) (hS : Sim SL d y2 cc2 nL2 ret2 0 L0 [] g (fun r g' => Sim SL (d + 1) y cc nL ret n L (m_push r st) g' Q)) : Sim SL (d + 1) y cc nL ret pc L (a3 :: a2 :: a1 :: .ref k :: st) g Q :=
  s_invv (As := [a1, a2, a3]) hd hn hM hl ho ht hy rfl rfl hL0 hle hst hS (fun r g' h => by rw [m_push_eq]; exact h)
theorem s_cs3 {ix : Nat} {y2 : MethodName} {cc2 : ByteArray} {nL2 : Nat} {ret2 : Option FieldType} {a1 a2 a3 : Value} {L0 : List Value} (hd : decode cc pc = .ok (.invokestatic ix, 3)) (hn : n = pc + 3) (hM : m_MO y2 cc2 nL2 ret2 3 true) (hl : m_ML y.cls ix y2) (hL0 : m_ent [a1, a2, a3] ++ List.replicate (nL2 - (m_ent [a1, a2, a3]).length) .null = L0) (hle : (m_ent [a1, a2, a3]).length ≤ nL2) (hst : (st.map fun v => v.category).sum ≤ 8) (hS : Sim SL d y2 cc2 nL2 ret2 0 L0 [] g (fun r g' => Sim SL (d + 1) y cc nL ret n L (m_push r st) g' Q)) : Sim SL (d + 1) y cc nL ret pc L (a3 :: a2 :: a1 :: st) g Q :=
  s_invs (As := [a1, a2, a3]) hd hn hM hl rfl rfl hL0 hle hst hS (fun r g' h => by rw [m_push_eq]; exact h)
theorem s_cv4 {ix k t : Nat} {y2 : MethodName} {cc2 : ByteArray} {nL2 : Nat} {ret2 : Option FieldType} {a1 a2 a3 a4 : Value} {L0 : List Value} (hd : decode cc pc = .ok (.invokevirtual ix, 3)) (hn : n = pc + 3) (hM : m_MO y2 cc2 nL2 ret2 4 false) (hl : m_ML y.cls ix y2) (ho : (m_sh k).1 = t) (ht : t < 10) (hy : (m_cr t).1 = y2.cls) (hL0 : m_ent (.ref k :: [a1, a2, a3, a4]) ++ List.replicate (nL2 - (m_ent (.ref k :: [a1, a2, a3, a4])).length) .null = L0) (hle : (m_ent (.ref k :: [a1, a2, a3, a4])).length ≤ nL2) (hst : (st.map fun v => v.category).sum ≤ 8) (hS : Sim SL d y2 cc2 nL2 ret2 0 L0 [] g (fun r g' => Sim SL (d + 1) y cc nL ret n L (m_push r st) g' Q)) : Sim SL (d + 1) y cc nL ret pc L (a4 :: a3 :: a2 :: a1 :: .ref k :: st) g Q :=
  s_invv (As := [a1, a2, a3, a4]) hd hn hM hl ho ht hy rfl rfl hL0 hle hst hS (fun r g' h => by rw [m_push_eq]; exact h)
theorem s_cs4 {ix : Nat} {y2 : MethodName} {cc2 : ByteArray} {nL2 : Nat} {ret2 : Option FieldType} {a1 a2 a3 a4 : Value} {L0 : List Value} (hd : decode cc pc = .ok (.invokestatic ix, 3)) (hn : n = pc + 3) (hM : m_MO y2 cc2 nL2 ret2 4 true) (hl : m_ML y.cls ix y2) (hL0 : m_ent [a1, a2, a3, a4] ++ List.replicate (nL2 - (m_ent [a1, a2, a3, a4]).length) .null = L0) (hle : (m_ent [a1, a2, a3, a4]).length ≤ nL2) (hst : (st.map fun v => v.category).sum ≤ 8) (hS : Sim SL d y2 cc2 nL2 ret2 0 L0 [] g (fun r g' => Sim SL (d + 1) y cc nL ret n L (m_push r st) g' Q)) : Sim SL (d + 1) y cc nL ret pc L (a4 :: a3 :: a2 :: a1 :: st) g Q :=
  s_invs (As := [a1, a2, a3, a4]) hd hn hM hl rfl rfl hL0 hle hst hS (fun r g' h => by rw [m_push_eq]; exact h)
theorem s_cv5 {ix k t : Nat} {y2 : MethodName} {cc2 : ByteArray} {nL2 : Nat} {ret2 : Option FieldType} {a1 a2 a3 a4 a5 : Value} {L0 : List Value} (hd : decode cc pc = .ok (.invokevirtual ix, 3)) (hn : n = pc + 3) (hM : m_MO y2 cc2 nL2 ret2 5 false) (hl : m_ML y.cls ix y2) (ho : (m_sh k).1 = t) (ht : t < 10) (hy : (m_cr t).1 = y2.cls) (hL0 : m_ent (.ref k :: [a1, a2, a3, a4, a5]) ++ List.replicate (nL2 - (m_ent (.ref k :: [a1, a2, a3, a4, a5])).length) .null = L0) (hle : (m_ent (.ref k :: [a1, a2, a3, a4, a5])).length ≤ nL2) (hst : (st.map fun v => v.category).sum ≤ 8) (hS : Sim SL d y2 cc2 nL2 ret2 0 L0 [] g (fun r g' => Sim SL (d + 1) y cc nL ret n L (m_push r st) g' Q)) : Sim SL (d + 1) y cc nL ret pc L (a5 :: a4 :: a3 :: a2 :: a1 :: .ref k :: st) g Q :=
  s_invv (As := [a1, a2, a3, a4, a5]) hd hn hM hl ho ht hy rfl rfl hL0 hle hst hS (fun r g' h => by rw [m_push_eq]; exact h)
theorem s_cs5 {ix : Nat} {y2 : MethodName} {cc2 : ByteArray} {nL2 : Nat} {ret2 : Option FieldType} {a1 a2 a3 a4 a5 : Value} {L0 : List Value} (hd : decode cc pc = .ok (.invokestatic ix, 3)) (hn : n = pc + 3) (hM : m_MO y2 cc2 nL2 ret2 5 true) (hl : m_ML y.cls ix y2) (hL0 : m_ent [a1, a2, a3, a4, a5] ++ List.replicate (nL2 - (m_ent [a1, a2, a3, a4, a5]).length) .null = L0) (hle : (m_ent [a1, a2, a3, a4, a5]).length ≤ nL2) (hst : (st.map fun v => v.category).sum ≤ 8) (hS : Sim SL d y2 cc2 nL2 ret2 0 L0 [] g (fun r g' => Sim SL (d + 1) y cc nL ret n L (m_push r st) g' Q)) : Sim SL (d + 1) y cc nL ret pc L (a5 :: a4 :: a3 :: a2 :: a1 :: st) g Q :=
  s_invs (As := [a1, a2, a3, a4, a5]) hd hn hM hl rfl rfl hL0 hle hst hS (fun r g' h => by rw [m_push_eq]; exact h)
theorem s_mmax {ix : Nat} {a b : Int32} (hd : decode cc pc = .ok (.invokestatic ix, 3)) (hn : n = pc + 3) (hl : Cond.methodLink y.cls ix Lib.Math.max.name ∈ m_gw) (hw : (Cond.static Lib.Math.max.name ∈ m_gw ∧ Cond.initialized "java/lang/Math" ∈ m_gw) ∧ Cond.code Lib.Math.max.name Lib.Math.max.code 2 (some .int) ∈ m_gw) (hst : (st.map fun v => v.category).sum ≤ 8) (k : Sim SL (d + 1) y cc nL ret n L (.int (if a < b then b else a) :: st) g Q) : Sim SL (d + 1) y cc nL ret pc L (.int b :: .int a :: st) g Q := by
  intro p l e R s m args below meth c H locs cells slots Z A dC dI cy ad ls g0 hC hR hW hL
  subst hn
  have hts := hC.2.2.2.2.2.2.1
  have h60 := hC.2.2.2.2.2.2.2.2.2.2.1
  have hcat := m_catsum (ad := ad) hst
  exact va_mmax hC.1 hC.2.1 (by rw [hC.2.2.1]; exact hL.1.symm) hC.2.2.2.2.2.1 (hts _ hl) (hts _ hw.1.1) (hts _ hw.1.2) (hts _ hw.2) (by omega) (by omega) hC.2.2.2.2.2.2.2.2.2.2.2.2.2.1 hC.2.2.2.2.2.2.2.2.2.2.2.2.2.2 hd (k hC hR hW hL)
theorem s_mmin {ix : Nat} {a b : Int32} (hd : decode cc pc = .ok (.invokestatic ix, 3)) (hn : n = pc + 3) (hl : Cond.methodLink y.cls ix Lib.Math.min.name ∈ m_gw) (hw : (Cond.static Lib.Math.min.name ∈ m_gw ∧ Cond.initialized "java/lang/Math" ∈ m_gw) ∧ Cond.code Lib.Math.min.name Lib.Math.min.code 2 (some .int) ∈ m_gw) (hst : (st.map fun v => v.category).sum ≤ 8) (k : Sim SL (d + 1) y cc nL ret n L (.int (if b < a then b else a) :: st) g Q) : Sim SL (d + 1) y cc nL ret pc L (.int b :: .int a :: st) g Q := by
  intro p l e R s m args below meth c H locs cells slots Z A dC dI cy ad ls g0 hC hR hW hL
  subst hn
  have hts := hC.2.2.2.2.2.2.1
  have h60 := hC.2.2.2.2.2.2.2.2.2.2.1
  have hcat := m_catsum (ad := ad) hst
  exact va_mmin hC.1 hC.2.1 (by rw [hC.2.2.1]; exact hL.1.symm) hC.2.2.2.2.2.1 (hts _ hl) (hts _ hw.1.1) (hts _ hw.1.2) (hts _ hw.2) (by omega) (by omega) hC.2.2.2.2.2.2.2.2.2.2.2.2.2.1 hC.2.2.2.2.2.2.2.2.2.2.2.2.2.2 hd (k hC hR hW hL)
theorem s_ite {c : Prop} [Decidable c] {u v : Int32} (h : Sim SL d y cc nL ret pc L (.int (if c then u else v) :: st) g Q) : (c → Sim SL d y cc nL ret pc L (.int u :: st) g Q) ∧ (¬ c → Sim SL d y cc nL ret pc L (.int v :: st) g Q) := by
  constructor
  · intro hc; rw [if_pos hc] at h; exact h
  · intro hc; rw [if_neg hc] at h; exact h
theorem s_mat_icmp_eq {a b u v : Int32} {off o2 z1 z2 : Int} {t : Nat} (hd : decode cc pc = .ok (.if_icmp .eq off, 3)) (ht : (pc : Int) + off = (t : Int)) (hd1 : decode cc (pc + 3) = .ok (.iconst z1, 1)) (hd2 : decode cc (pc + 4) = .ok (.goto o2, 3)) (ht2 : ((pc + 4 : Nat) : Int) + o2 = (n : Int)) (hd3 : decode cc t = .ok (.iconst z2, 1)) (hn : n = t + 1) (hu : Int32.ofInt z2 = u) (hv : Int32.ofInt z1 = v) (k : Sim SL d y cc nL ret n L (.int (if a = b then u else v) :: st) g Q) : Sim SL d y cc nL ret pc L (.int b :: .int a :: st) g Q :=
  s_icmp_eq hd ht rfl (fun h => s_iconst hd3 hn hu ((s_ite k).1 h)) (fun h => s_iconst hd1 rfl hv (s_goto hd2 ht2 ((s_ite k).2 h)))
theorem s_mat_if_eq {a u v : Int32} {off o2 z1 z2 : Int} {t : Nat} (hd : decode cc pc = .ok (.ifCond .eq off, 3)) (ht : (pc : Int) + off = (t : Int)) (hd1 : decode cc (pc + 3) = .ok (.iconst z1, 1)) (hd2 : decode cc (pc + 4) = .ok (.goto o2, 3)) (ht2 : ((pc + 4 : Nat) : Int) + o2 = (n : Int)) (hd3 : decode cc t = .ok (.iconst z2, 1)) (hn : n = t + 1) (hu : Int32.ofInt z2 = u) (hv : Int32.ofInt z1 = v) (k : Sim SL d y cc nL ret n L (.int (if a = 0 then u else v) :: st) g Q) : Sim SL d y cc nL ret pc L (.int a :: st) g Q :=
  s_if_eq hd ht rfl (fun h => s_iconst hd3 hn hu ((s_ite k).1 h)) (fun h => s_iconst hd1 rfl hv (s_goto hd2 ht2 ((s_ite k).2 h)))
theorem s_mat_icmp_ne {a b u v : Int32} {off o2 z1 z2 : Int} {t : Nat} (hd : decode cc pc = .ok (.if_icmp .ne off, 3)) (ht : (pc : Int) + off = (t : Int)) (hd1 : decode cc (pc + 3) = .ok (.iconst z1, 1)) (hd2 : decode cc (pc + 4) = .ok (.goto o2, 3)) (ht2 : ((pc + 4 : Nat) : Int) + o2 = (n : Int)) (hd3 : decode cc t = .ok (.iconst z2, 1)) (hn : n = t + 1) (hu : Int32.ofInt z2 = u) (hv : Int32.ofInt z1 = v) (k : Sim SL d y cc nL ret n L (.int (if a ≠ b then u else v) :: st) g Q) : Sim SL d y cc nL ret pc L (.int b :: .int a :: st) g Q :=
  s_icmp_ne hd ht rfl (fun h => s_iconst hd3 hn hu ((s_ite k).1 h)) (fun h => s_iconst hd1 rfl hv (s_goto hd2 ht2 ((s_ite k).2 (fun q => q h))))
theorem s_mat_if_ne {a u v : Int32} {off o2 z1 z2 : Int} {t : Nat} (hd : decode cc pc = .ok (.ifCond .ne off, 3)) (ht : (pc : Int) + off = (t : Int)) (hd1 : decode cc (pc + 3) = .ok (.iconst z1, 1)) (hd2 : decode cc (pc + 4) = .ok (.goto o2, 3)) (ht2 : ((pc + 4 : Nat) : Int) + o2 = (n : Int)) (hd3 : decode cc t = .ok (.iconst z2, 1)) (hn : n = t + 1) (hu : Int32.ofInt z2 = u) (hv : Int32.ofInt z1 = v) (k : Sim SL d y cc nL ret n L (.int (if a ≠ 0 then u else v) :: st) g Q) : Sim SL d y cc nL ret pc L (.int a :: st) g Q :=
  s_if_ne hd ht rfl (fun h => s_iconst hd3 hn hu ((s_ite k).1 h)) (fun h => s_iconst hd1 rfl hv (s_goto hd2 ht2 ((s_ite k).2 (fun q => q h))))
theorem s_mat_icmp_lt {a b u v : Int32} {off o2 z1 z2 : Int} {t : Nat} (hd : decode cc pc = .ok (.if_icmp .lt off, 3)) (ht : (pc : Int) + off = (t : Int)) (hd1 : decode cc (pc + 3) = .ok (.iconst z1, 1)) (hd2 : decode cc (pc + 4) = .ok (.goto o2, 3)) (ht2 : ((pc + 4 : Nat) : Int) + o2 = (n : Int)) (hd3 : decode cc t = .ok (.iconst z2, 1)) (hn : n = t + 1) (hu : Int32.ofInt z2 = u) (hv : Int32.ofInt z1 = v) (k : Sim SL d y cc nL ret n L (.int (if a < b then u else v) :: st) g Q) : Sim SL d y cc nL ret pc L (.int b :: .int a :: st) g Q :=
  s_icmp_lt hd ht rfl (fun h => s_iconst hd3 hn hu ((s_ite k).1 h)) (fun h => s_iconst hd1 rfl hv (s_goto hd2 ht2 ((s_ite k).2 h)))
theorem s_mat_if_lt {a u v : Int32} {off o2 z1 z2 : Int} {t : Nat} (hd : decode cc pc = .ok (.ifCond .lt off, 3)) (ht : (pc : Int) + off = (t : Int)) (hd1 : decode cc (pc + 3) = .ok (.iconst z1, 1)) (hd2 : decode cc (pc + 4) = .ok (.goto o2, 3)) (ht2 : ((pc + 4 : Nat) : Int) + o2 = (n : Int)) (hd3 : decode cc t = .ok (.iconst z2, 1)) (hn : n = t + 1) (hu : Int32.ofInt z2 = u) (hv : Int32.ofInt z1 = v) (k : Sim SL d y cc nL ret n L (.int (if a < 0 then u else v) :: st) g Q) : Sim SL d y cc nL ret pc L (.int a :: st) g Q :=
  s_if_lt hd ht rfl (fun h => s_iconst hd3 hn hu ((s_ite k).1 h)) (fun h => s_iconst hd1 rfl hv (s_goto hd2 ht2 ((s_ite k).2 h)))
theorem s_mat_icmp_ge {a b u v : Int32} {off o2 z1 z2 : Int} {t : Nat} (hd : decode cc pc = .ok (.if_icmp .ge off, 3)) (ht : (pc : Int) + off = (t : Int)) (hd1 : decode cc (pc + 3) = .ok (.iconst z1, 1)) (hd2 : decode cc (pc + 4) = .ok (.goto o2, 3)) (ht2 : ((pc + 4 : Nat) : Int) + o2 = (n : Int)) (hd3 : decode cc t = .ok (.iconst z2, 1)) (hn : n = t + 1) (hu : Int32.ofInt z2 = u) (hv : Int32.ofInt z1 = v) (k : Sim SL d y cc nL ret n L (.int (if b ≤ a then u else v) :: st) g Q) : Sim SL d y cc nL ret pc L (.int b :: .int a :: st) g Q :=
  s_icmp_ge hd ht rfl (fun h => s_iconst hd3 hn hu ((s_ite k).1 h)) (fun h => s_iconst hd1 rfl hv (s_goto hd2 ht2 ((s_ite k).2 h)))
theorem s_mat_if_ge {a u v : Int32} {off o2 z1 z2 : Int} {t : Nat} (hd : decode cc pc = .ok (.ifCond .ge off, 3)) (ht : (pc : Int) + off = (t : Int)) (hd1 : decode cc (pc + 3) = .ok (.iconst z1, 1)) (hd2 : decode cc (pc + 4) = .ok (.goto o2, 3)) (ht2 : ((pc + 4 : Nat) : Int) + o2 = (n : Int)) (hd3 : decode cc t = .ok (.iconst z2, 1)) (hn : n = t + 1) (hu : Int32.ofInt z2 = u) (hv : Int32.ofInt z1 = v) (k : Sim SL d y cc nL ret n L (.int (if 0 ≤ a then u else v) :: st) g Q) : Sim SL d y cc nL ret pc L (.int a :: st) g Q :=
  s_if_ge hd ht rfl (fun h => s_iconst hd3 hn hu ((s_ite k).1 h)) (fun h => s_iconst hd1 rfl hv (s_goto hd2 ht2 ((s_ite k).2 h)))
theorem s_mat_icmp_gt {a b u v : Int32} {off o2 z1 z2 : Int} {t : Nat} (hd : decode cc pc = .ok (.if_icmp .gt off, 3)) (ht : (pc : Int) + off = (t : Int)) (hd1 : decode cc (pc + 3) = .ok (.iconst z1, 1)) (hd2 : decode cc (pc + 4) = .ok (.goto o2, 3)) (ht2 : ((pc + 4 : Nat) : Int) + o2 = (n : Int)) (hd3 : decode cc t = .ok (.iconst z2, 1)) (hn : n = t + 1) (hu : Int32.ofInt z2 = u) (hv : Int32.ofInt z1 = v) (k : Sim SL d y cc nL ret n L (.int (if b < a then u else v) :: st) g Q) : Sim SL d y cc nL ret pc L (.int b :: .int a :: st) g Q :=
  s_icmp_gt hd ht rfl (fun h => s_iconst hd3 hn hu ((s_ite k).1 h)) (fun h => s_iconst hd1 rfl hv (s_goto hd2 ht2 ((s_ite k).2 h)))
theorem s_mat_if_gt {a u v : Int32} {off o2 z1 z2 : Int} {t : Nat} (hd : decode cc pc = .ok (.ifCond .gt off, 3)) (ht : (pc : Int) + off = (t : Int)) (hd1 : decode cc (pc + 3) = .ok (.iconst z1, 1)) (hd2 : decode cc (pc + 4) = .ok (.goto o2, 3)) (ht2 : ((pc + 4 : Nat) : Int) + o2 = (n : Int)) (hd3 : decode cc t = .ok (.iconst z2, 1)) (hn : n = t + 1) (hu : Int32.ofInt z2 = u) (hv : Int32.ofInt z1 = v) (k : Sim SL d y cc nL ret n L (.int (if 0 < a then u else v) :: st) g Q) : Sim SL d y cc nL ret pc L (.int a :: st) g Q :=
  s_if_gt hd ht rfl (fun h => s_iconst hd3 hn hu ((s_ite k).1 h)) (fun h => s_iconst hd1 rfl hv (s_goto hd2 ht2 ((s_ite k).2 h)))
theorem s_mat_icmp_le {a b u v : Int32} {off o2 z1 z2 : Int} {t : Nat} (hd : decode cc pc = .ok (.if_icmp .le off, 3)) (ht : (pc : Int) + off = (t : Int)) (hd1 : decode cc (pc + 3) = .ok (.iconst z1, 1)) (hd2 : decode cc (pc + 4) = .ok (.goto o2, 3)) (ht2 : ((pc + 4 : Nat) : Int) + o2 = (n : Int)) (hd3 : decode cc t = .ok (.iconst z2, 1)) (hn : n = t + 1) (hu : Int32.ofInt z2 = u) (hv : Int32.ofInt z1 = v) (k : Sim SL d y cc nL ret n L (.int (if a ≤ b then u else v) :: st) g Q) : Sim SL d y cc nL ret pc L (.int b :: .int a :: st) g Q :=
  s_icmp_le hd ht rfl (fun h => s_iconst hd3 hn hu ((s_ite k).1 h)) (fun h => s_iconst hd1 rfl hv (s_goto hd2 ht2 ((s_ite k).2 h)))
theorem s_mat_if_le {a u v : Int32} {off o2 z1 z2 : Int} {t : Nat} (hd : decode cc pc = .ok (.ifCond .le off, 3)) (ht : (pc : Int) + off = (t : Int)) (hd1 : decode cc (pc + 3) = .ok (.iconst z1, 1)) (hd2 : decode cc (pc + 4) = .ok (.goto o2, 3)) (ht2 : ((pc + 4 : Nat) : Int) + o2 = (n : Int)) (hd3 : decode cc t = .ok (.iconst z2, 1)) (hn : n = t + 1) (hu : Int32.ofInt z2 = u) (hv : Int32.ofInt z1 = v) (k : Sim SL d y cc nL ret n L (.int (if a ≤ 0 then u else v) :: st) g Q) : Sim SL d y cc nL ret pc L (.int a :: st) g Q :=
  s_if_le hd ht rfl (fun h => s_iconst hd3 hn hu ((s_ite k).1 h)) (fun h => s_iconst hd1 rfl hv (s_goto hd2 ht2 ((s_ite k).2 h)))
theorem m_narb {c : Prop} [Decidable c] : narrow .boolean (.int (if c then 1 else 0)) = .int (if c then 1 else 0) := by split <;> decide +kernel
theorem m_narb2 {c : Prop} [Decidable c] : narrow .boolean (.int (if c then 0 else 1)) = .int (if c then 0 else 1) := by split <;> decide +kernel
end SIMCALL2
theorem mlm_X8_219 : Cond.methodLink RX8 219 Lib.Math.max.name ∈ m_gw := (List.mem_filter.mpr ⟨List.mem_of_getElem? (i := 605) (by decide +kernel), rfl⟩)
theorem mlm_X3_36 : Cond.methodLink RX3 36 Lib.Math.min.name ∈ m_gw := (List.mem_filter.mpr ⟨List.mem_of_getElem? (i := 514) (by decide +kernel), rfl⟩)
theorem mlm_X3_42 : Cond.methodLink RX3 42 Lib.Math.max.name ∈ m_gw := (List.mem_filter.mpr ⟨List.mem_of_getElem? (i := 517) (by decide +kernel), rfl⟩)
theorem m_minw : (Cond.static Lib.Math.min.name ∈ m_gw ∧ Cond.initialized "java/lang/Math" ∈ m_gw) ∧ Cond.code Lib.Math.min.name Lib.Math.min.code 2 (some .int) ∈ m_gw := ⟨⟨(List.mem_filter.mpr ⟨List.mem_of_getElem? (i := 515) (by decide +kernel), rfl⟩), (List.mem_filter.mpr ⟨List.mem_of_getElem? (i := 72) (by decide +kernel), rfl⟩)⟩, (List.mem_filter.mpr ⟨List.mem_of_getElem? (i := 516) (by decide +kernel), rfl⟩)⟩
theorem m_maxw : (Cond.static Lib.Math.max.name ∈ m_gw ∧ Cond.initialized "java/lang/Math" ∈ m_gw) ∧ Cond.code Lib.Math.max.name Lib.Math.max.code 2 (some .int) ∈ m_gw := ⟨⟨(List.mem_filter.mpr ⟨List.mem_of_getElem? (i := 518) (by decide +kernel), rfl⟩), (List.mem_filter.mpr ⟨List.mem_of_getElem? (i := 72) (by decide +kernel), rfl⟩)⟩, (List.mem_filter.mpr ⟨List.mem_of_getElem? (i := 519) (by decide +kernel), rfl⟩)⟩
end
section
/-- a number lies between two others -/
def wn (a b c : Int32) : Prop := ¬ a < b ∧ ¬ c < a
theorem wn_i1 {a b c : Int32} (h : a < b) : ¬ wn a b c := fun q => q.1 h
theorem wn_i2 {a b c : Int32} (h : c < a) : ¬ wn a b c := fun q => q.2 h
theorem Int64_lt_of {a b : Int32} : a.toInt64 < b.toInt64 ↔ a < b := by
  rw [Int64.lt_iff_toInt_lt, Int32.lt_iff_toInt_lt, Int32.toInt_toInt64, Int32.toInt_toInt64]
theorem c_X8_within {SL : Nat} {d : Nat} {Q : Option Int32 → m_G → Prop} {g : m_G} (a b c : Int32) (k1 : wn a b c → Q (some 1) g) (k0 : ¬ (wn a b c) → Q (some 0) g) : Sim SL d yX8_within cX8_within 3 (some .boolean) 0 [.int a, .int b, .int c] [] g Q := by
  refine s_iload_n (n := 1) dX8_within_0 rfl rfl rfl ?_
  refine s_iload_n (n := 2) dX8_within_1 rfl rfl rfl ?_
  refine s_icmp_lt (n := 5) (t := 14) dX8_within_2 (by decide) rfl (fun h2 => ?_) (fun h2 => ?_)
  · refine s_iconst (v := 0) (n := 15) dX8_within_14 rfl (by decide) ?_
    refine s_ireturn dX8_within_15 rfl (by decide +kernel) ?_
    first | exact k1 ⟨h2, h7⟩ | exact k0 (wn_i2 h7) | exact k0 (wn_i1 h2)
  · refine s_iload_n (n := 6) dX8_within_5 rfl rfl rfl ?_
    refine s_iload_n (n := 7) dX8_within_6 rfl rfl rfl ?_
    refine s_icmp_gt (n := 10) (t := 14) dX8_within_7 (by decide) rfl (fun h7 => ?_) (fun h7 => ?_)
    · refine s_iconst (v := 0) (n := 15) dX8_within_14 rfl (by decide) ?_
      refine s_ireturn dX8_within_15 rfl (by decide +kernel) ?_
      first | exact k1 ⟨h2, h7⟩ | exact k0 (wn_i2 h7) | exact k0 (wn_i1 h2)
    · refine s_iconst (v := 1) (n := 11) dX8_within_10 rfl (by decide) ?_
      refine s_goto (t := 15) dX8_within_11 (by decide) ?_
      refine s_ireturn dX8_within_15 rfl (by decide +kernel) ?_
      first | exact k1 ⟨h2, h7⟩ | exact k0 (wn_i2 h7) | exact k0 (wn_i1 h2)
theorem c_X9_in {SL : Nat} {d : Nat} {Q : Option Int32 → m_G → Prop} {g : m_G} {a b c : Int64} {x : Int32} (lo hi : Int32) (ha : a = x.toInt64) (hb : b = lo.toInt64) (hc : c = hi.toInt64) (k1 : wn x lo hi → Q (some 1) g) (k0 : ¬ (wn x lo hi) → Q (some 0) g) : Sim SL d yX9_in cX9_in 6 (some .boolean) 0 [.long a, .null, .long b, .null, .long c, .null] [] g Q := by
  refine s_lload_n (n := 1) dX9_in_0 rfl rfl rfl ?_
  refine s_lload_n (n := 2) dX9_in_1 rfl rfl rfl ?_
  refine s_lcmp (n := 3) dX9_in_2 rfl ?_
  refine s_if_lt (n := 6) (t := 17) dX9_in_3 (by decide) rfl (fun h3 => ?_) (fun h3 => ?_)
  · refine s_iconst (v := 0) (n := 18) dX9_in_17 rfl (by decide) ?_
    refine s_ireturn dX9_in_18 rfl (by decide +kernel) ?_
    subst ha hb hc
    first | exact k1 ⟨fun q => h3 ((lg_cmp_lt _ _).mpr (Int64_lt_of.mpr q)), fun q => h10 ((lg_cmp_gt _ _).mpr (Int64_lt_of.mpr q))⟩ | exact k0 (fun q => q.2 (Int64_lt_of.mp ((lg_cmp_gt _ _).mp h10))) | exact k0 (fun q => q.1 (Int64_lt_of.mp ((lg_cmp_lt _ _).mp h3)))
  · refine s_lload_n (n := 7) dX9_in_6 rfl rfl rfl ?_
    refine s_lload (n := 9) dX9_in_7 rfl rfl ?_
    refine s_lcmp (n := 10) dX9_in_9 rfl ?_
    refine s_if_gt (n := 13) (t := 17) dX9_in_10 (by decide) rfl (fun h10 => ?_) (fun h10 => ?_)
    · refine s_iconst (v := 0) (n := 18) dX9_in_17 rfl (by decide) ?_
      refine s_ireturn dX9_in_18 rfl (by decide +kernel) ?_
      subst ha hb hc
      first | exact k1 ⟨fun q => h3 ((lg_cmp_lt _ _).mpr (Int64_lt_of.mpr q)), fun q => h10 ((lg_cmp_gt _ _).mpr (Int64_lt_of.mpr q))⟩ | exact k0 (fun q => q.2 (Int64_lt_of.mp ((lg_cmp_gt _ _).mp h10))) | exact k0 (fun q => q.1 (Int64_lt_of.mp ((lg_cmp_lt _ _).mp h3)))
    · refine s_iconst (v := 1) (n := 14) dX9_in_13 rfl (by decide) ?_
      refine s_goto (t := 18) dX9_in_14 (by decide) ?_
      refine s_ireturn dX9_in_18 rfl (by decide +kernel) ?_
      subst ha hb hc
      first | exact k1 ⟨fun q => h3 ((lg_cmp_lt _ _).mpr (Int64_lt_of.mpr q)), fun q => h10 ((lg_cmp_gt _ _).mpr (Int64_lt_of.mpr q))⟩ | exact k0 (fun q => q.2 (Int64_lt_of.mp ((lg_cmp_gt _ _).mp h10))) | exact k0 (fun q => q.1 (Int64_lt_of.mp ((lg_cmp_lt _ _).mp h3)))
theorem c_X8_isRow {SL : Nat} {d : Nat} {Q : Option Int32 → m_G → Prop} {g : m_G} (a : Int32) (k1 : wn a 0 7 → Q (some 1) g) (k0 : ¬ (wn a 0 7) → Q (some 0) g) : Sim SL (d + 1) yX8_isRow cX8_isRow 1 (some .boolean) 0 [.int a] [] g Q := by
  refine s_iload_n (n := 1) dX8_isRow_0 rfl rfl rfl ?_
  refine s_iconst (v := 0) (n := 2) dX8_isRow_1 rfl (by decide) ?_
  refine s_bipush (v := 7) (n := 4) dX8_isRow_2 rfl (by decide) ?_
  refine s_cs3 (n := 7) dX8_isRow_4 rfl mo_X8_within ml_X8_62 rfl (Nat.le_of_ble_eq_true rfl) (Nat.le_of_ble_eq_true rfl) (c_X8_within _ _ _ (fun hb4 => ?_) (fun hb4 => ?_))
  · dsimp only [m_push]
    refine s_ireturn dX8_isRow_7 rfl (by decide +kernel) ?_
    first | exact k1 hb4 | exact k0 hb4
  · dsimp only [m_push]
    refine s_ireturn dX8_isRow_7 rfl (by decide +kernel) ?_
    first | exact k1 hb4 | exact k0 hb4
theorem c_X9_isRow {SL : Nat} {d : Nat} {Q : Option Int32 → m_G → Prop} {g : m_G} (a : Int32) (k1 : wn a 0 7 → Q (some 1) g) (k0 : ¬ (wn a 0 7) → Q (some 0) g) : Sim SL (d + 1) yX9_isRow cX9_isRow 1 (some .boolean) 0 [.int a] [] g Q := by
  refine s_iload_n (n := 1) dX9_isRow_0 rfl rfl rfl ?_
  refine s_i2l (n := 2) dX9_isRow_1 rfl ?_
  refine s_lconst (v := 0) (n := 3) dX9_isRow_2 rfl (by decide) ?_
  refine s_ldc2 (n := 6) dX9_isRow_3 rfl kc_X9_58 ?_
  refine s_cs3 (n := 9) dX9_isRow_6 rfl mo_X9_in ml_X9_60 rfl (Nat.le_of_ble_eq_true rfl) (Nat.le_of_ble_eq_true rfl) (c_X9_in (0) (7) rfl (by decide) (by decide) (fun hb6 => ?_) (fun hb6 => ?_))
  · dsimp only [m_push]
    refine s_ireturn dX9_isRow_9 rfl (by decide +kernel) ?_
    first | exact k1 hb6 | exact k0 hb6
  · dsimp only [m_push]
    refine s_ireturn dX9_isRow_9 rfl (by decide +kernel) ?_
    first | exact k1 hb6 | exact k0 hb6
end
