-- ===== PART A: goes FIRST, ahead of the names: the tables' words, and 'selects' of the private methods out of them =====
/-- a private method of a class that the tables say can be made, by its rows of tables_1 -/
def lw_okq (q : MethodName × Nat) : Prop := (q.1.cls ≠ "java/lang/invoke/MethodHandle" ∧ q.1.cls ≠ "java/lang/invoke/VarHandle") ∧ Cond.instantiable q.1.cls q.2 ∈ tables_1 ∧ Cond.privateMethod q.1 ∈ tables_1 ∧ Cond.instanceMethod q.1 ∈ tables_1
theorem lw_p0 : lw_okq (⟨"MarkedByNext", "textOf", "(I)LMarkedByNext$Text;"⟩, 19) := ⟨⟨by decide +kernel, by decide +kernel⟩, List.mem_of_getElem? (i := 17) (by decide +kernel), List.mem_of_getElem? (i := 302) (by decide +kernel), List.mem_of_getElem? (i := 303) (by decide +kernel)⟩
theorem lw_p1 : lw_okq (⟨"MarkedByNext", "rereadText", "(I)V"⟩, 19) := ⟨⟨by decide +kernel, by decide +kernel⟩, List.mem_of_getElem? (i := 17) (by decide +kernel), List.mem_of_getElem? (i := 310) (by decide +kernel), List.mem_of_getElem? (i := 311) (by decide +kernel)⟩
theorem lw_p2 : lw_okq (⟨"MarkedByNext$Benches", "fillToFault", "(LMarkedByNext$Text;)I"⟩, 4) := ⟨⟨by decide +kernel, by decide +kernel⟩, List.mem_of_getElem? (i := 73) (by decide +kernel), List.mem_of_getElem? (i := 331) (by decide +kernel), List.mem_of_getElem? (i := 332) (by decide +kernel)⟩
theorem lw_p3 : lw_okq (⟨"MarkedByNext$Benches", "mayStand", "(I)Z"⟩, 4) := ⟨⟨by decide +kernel, by decide +kernel⟩, List.mem_of_getElem? (i := 73) (by decide +kernel), List.mem_of_getElem? (i := 335) (by decide +kernel), List.mem_of_getElem? (i := 336) (by decide +kernel)⟩
theorem lw_p4 : lw_okq (⟨"MarkedByNext", "forgetYear", "()V"⟩, 19) := ⟨⟨by decide +kernel, by decide +kernel⟩, List.mem_of_getElem? (i := 17) (by decide +kernel), List.mem_of_getElem? (i := 343) (by decide +kernel), List.mem_of_getElem? (i := 344) (by decide +kernel)⟩
theorem lw_p5 : lw_okq (⟨"MarkedByNext", "isBoy", "(I)Z"⟩, 19) := ⟨⟨by decide +kernel, by decide +kernel⟩, List.mem_of_getElem? (i := 17) (by decide +kernel), List.mem_of_getElem? (i := 363) (by decide +kernel), List.mem_of_getElem? (i := 364) (by decide +kernel)⟩
theorem lw_p6 : lw_okq (⟨"MarkedByNext", "isSeat", "(I)Z"⟩, 19) := ⟨⟨by decide +kernel, by decide +kernel⟩, List.mem_of_getElem? (i := 17) (by decide +kernel), List.mem_of_getElem? (i := 371) (by decide +kernel), List.mem_of_getElem? (i := 372) (by decide +kernel)⟩
theorem lw_p7 : lw_okq (⟨"MarkedByNext", "found", "(I)I"⟩, 19) := ⟨⟨by decide +kernel, by decide +kernel⟩, List.mem_of_getElem? (i := 17) (by decide +kernel), List.mem_of_getElem? (i := 402) (by decide +kernel), List.mem_of_getElem? (i := 403) (by decide +kernel)⟩
theorem lw_p8 : lw_okq (⟨"MarkedByNext", "yearAsTold", "()LMarkedByNext$Year;"⟩, 19) := ⟨⟨by decide +kernel, by decide +kernel⟩, List.mem_of_getElem? (i := 17) (by decide +kernel), List.mem_of_getElem? (i := 410) (by decide +kernel), List.mem_of_getElem? (i := 411) (by decide +kernel)⟩
theorem lw_p9 : lw_okq (⟨"MarkedByNext$Year", "teach", "(II)V"⟩, 10) := ⟨⟨by decide +kernel, by decide +kernel⟩, List.mem_of_getElem? (i := 146) (by decide +kernel), List.mem_of_getElem? (i := 433) (by decide +kernel), List.mem_of_getElem? (i := 434) (by decide +kernel)⟩
theorem lw_p10 : lw_okq (⟨"MarkedByNext$Year", "beside", "(III)I"⟩, 10) := ⟨⟨by decide +kernel, by decide +kernel⟩, List.mem_of_getElem? (i := 146) (by decide +kernel), List.mem_of_getElem? (i := 437) (by decide +kernel), List.mem_of_getElem? (i := 438) (by decide +kernel)⟩
theorem lw_p11 : lw_okq (⟨"MarkedByNext$Year", "gainOf", "(IIII)I"⟩, 10) := ⟨⟨by decide +kernel, by decide +kernel⟩, List.mem_of_getElem? (i := 146) (by decide +kernel), List.mem_of_getElem? (i := 441) (by decide +kernel), List.mem_of_getElem? (i := 442) (by decide +kernel)⟩
theorem lw_p12 : lw_okq (⟨"MarkedByNext$Year", "mark", "(I)V"⟩, 10) := ⟨⟨by decide +kernel, by decide +kernel⟩, List.mem_of_getElem? (i := 146) (by decide +kernel), List.mem_of_getElem? (i := 448) (by decide +kernel), List.mem_of_getElem? (i := 449) (by decide +kernel)⟩
theorem lw_p13 : lw_okq (⟨"MarkedByNext", "isAsked", "(I)Z"⟩, 19) := ⟨⟨by decide +kernel, by decide +kernel⟩, List.mem_of_getElem? (i := 17) (by decide +kernel), List.mem_of_getElem? (i := 514) (by decide +kernel), List.mem_of_getElem? (i := 515) (by decide +kernel)⟩
theorem lw_p14 : lw_okq (⟨"MarkedByNext", "findSit", "(II)V"⟩, 19) := ⟨⟨by decide +kernel, by decide +kernel⟩, List.mem_of_getElem? (i := 17) (by decide +kernel), List.mem_of_getElem? (i := 518) (by decide +kernel), List.mem_of_getElem? (i := 519) (by decide +kernel)⟩
theorem lw_p15 : lw_okq (⟨"MarkedByNext", "findTrade", "(I)V"⟩, 19) := ⟨⟨by decide +kernel, by decide +kernel⟩, List.mem_of_getElem? (i := 17) (by decide +kernel), List.mem_of_getElem? (i := 527) (by decide +kernel), List.mem_of_getElem? (i := 528) (by decide +kernel)⟩
def lw_privs_1 : List (MethodName × Nat) := [(⟨"MarkedByNext", "textOf", "(I)LMarkedByNext$Text;"⟩, 19), (⟨"MarkedByNext", "rereadText", "(I)V"⟩, 19), (⟨"MarkedByNext$Benches", "fillToFault", "(LMarkedByNext$Text;)I"⟩, 4), (⟨"MarkedByNext$Benches", "mayStand", "(I)Z"⟩, 4), (⟨"MarkedByNext", "forgetYear", "()V"⟩, 19), (⟨"MarkedByNext", "isBoy", "(I)Z"⟩, 19), (⟨"MarkedByNext", "isSeat", "(I)Z"⟩, 19), (⟨"MarkedByNext", "found", "(I)I"⟩, 19), (⟨"MarkedByNext", "yearAsTold", "()LMarkedByNext$Year;"⟩, 19), (⟨"MarkedByNext$Year", "teach", "(II)V"⟩, 10), (⟨"MarkedByNext$Year", "beside", "(III)I"⟩, 10), (⟨"MarkedByNext$Year", "gainOf", "(IIII)I"⟩, 10), (⟨"MarkedByNext$Year", "mark", "(I)V"⟩, 10), (⟨"MarkedByNext", "isAsked", "(I)Z"⟩, 19), (⟨"MarkedByNext", "findSit", "(II)V"⟩, 19), (⟨"MarkedByNext", "findTrade", "(I)V"⟩, 19)]
theorem lw_r1 : ∀ q ∈ lw_privs_1, lw_okq q := List.forall_mem_cons.mpr ⟨lw_p0, List.forall_mem_cons.mpr ⟨lw_p1, List.forall_mem_cons.mpr ⟨lw_p2, List.forall_mem_cons.mpr ⟨lw_p3, List.forall_mem_cons.mpr ⟨lw_p4, List.forall_mem_cons.mpr ⟨lw_p5, List.forall_mem_cons.mpr ⟨lw_p6, List.forall_mem_cons.mpr ⟨lw_p7, List.forall_mem_cons.mpr ⟨lw_p8, List.forall_mem_cons.mpr ⟨lw_p9, List.forall_mem_cons.mpr ⟨lw_p10, List.forall_mem_cons.mpr ⟨lw_p11, List.forall_mem_cons.mpr ⟨lw_p12, List.forall_mem_cons.mpr ⟨lw_p13, List.forall_mem_cons.mpr ⟨lw_p14, List.forall_mem_cons.mpr ⟨lw_p15, fun _ h => absurd h List.not_mem_nil⟩⟩⟩⟩⟩⟩⟩⟩⟩⟩⟩⟩⟩⟩⟩⟩
theorem lw_p16 : lw_okq (⟨"MarkedByNext", "findRush", "(LMarkedByNext$Year;)V"⟩, 19) := ⟨⟨by decide +kernel, by decide +kernel⟩, List.mem_of_getElem? (i := 17) (by decide +kernel), List.mem_of_getElem? (i := 540) (by decide +kernel), List.mem_of_getElem? (i := 541) (by decide +kernel)⟩
theorem lw_p17 : lw_okq (⟨"MarkedByNext", "findTable", "()V"⟩, 19) := ⟨⟨by decide +kernel, by decide +kernel⟩, List.mem_of_getElem? (i := 17) (by decide +kernel), List.mem_of_getElem? (i := 548) (by decide +kernel), List.mem_of_getElem? (i := 549) (by decide +kernel)⟩
theorem lw_p18 : lw_okq (⟨"MarkedByNext", "findSpare", "()V"⟩, 19) := ⟨⟨by decide +kernel, by decide +kernel⟩, List.mem_of_getElem? (i := 17) (by decide +kernel), List.mem_of_getElem? (i := 559) (by decide +kernel), List.mem_of_getElem? (i := 560) (by decide +kernel)⟩
theorem lw_p19 : lw_okq (⟨"MarkedByNext", "nobodyIsIdle", "(I)Z"⟩, 19) := ⟨⟨by decide +kernel, by decide +kernel⟩, List.mem_of_getElem? (i := 17) (by decide +kernel), List.mem_of_getElem? (i := 563) (by decide +kernel), List.mem_of_getElem? (i := 564) (by decide +kernel)⟩
theorem lw_p20 : lw_okq (⟨"MarkedByNext", "findFirsts", "(II)V"⟩, 19) := ⟨⟨by decide +kernel, by decide +kernel⟩, List.mem_of_getElem? (i := 17) (by decide +kernel), List.mem_of_getElem? (i := 601) (by decide +kernel), List.mem_of_getElem? (i := 602) (by decide +kernel)⟩
theorem lw_p21 : lw_okq (⟨"MarkedByNext", "dayToAsk", "(I)I"⟩, 19) := ⟨⟨by decide +kernel, by decide +kernel⟩, List.mem_of_getElem? (i := 17) (by decide +kernel), List.mem_of_getElem? (i := 605) (by decide +kernel), List.mem_of_getElem? (i := 606) (by decide +kernel)⟩
theorem lw_p22 : lw_okq (⟨"MarkedByNext", "greatestAlike", "(II)I"⟩, 19) := ⟨⟨by decide +kernel, by decide +kernel⟩, List.mem_of_getElem? (i := 17) (by decide +kernel), List.mem_of_getElem? (i := 609) (by decide +kernel), List.mem_of_getElem? (i := 610) (by decide +kernel)⟩
theorem lw_p23 : lw_okq (⟨"MarkedByNext", "tallyBests", "()V"⟩, 19) := ⟨⟨by decide +kernel, by decide +kernel⟩, List.mem_of_getElem? (i := 17) (by decide +kernel), List.mem_of_getElem? (i := 624) (by decide +kernel), List.mem_of_getElem? (i := 625) (by decide +kernel)⟩
theorem lw_p24 : lw_okq (⟨"MarkedByNext", "drawChanges", "(II)V"⟩, 19) := ⟨⟨by decide +kernel, by decide +kernel⟩, List.mem_of_getElem? (i := 17) (by decide +kernel), List.mem_of_getElem? (i := 659) (by decide +kernel), List.mem_of_getElem? (i := 660) (by decide +kernel)⟩
theorem lw_p25 : lw_okq (⟨"MarkedByNext", "mixSeats", "(J)J"⟩, 19) := ⟨⟨by decide +kernel, by decide +kernel⟩, List.mem_of_getElem? (i := 17) (by decide +kernel), List.mem_of_getElem? (i := 735) (by decide +kernel), List.mem_of_getElem? (i := 736) (by decide +kernel)⟩
theorem lw_p26 : lw_okq (⟨"MarkedByNext", "mixDaysOf", "(JI)J"⟩, 19) := ⟨⟨by decide +kernel, by decide +kernel⟩, List.mem_of_getElem? (i := 17) (by decide +kernel), List.mem_of_getElem? (i := 742) (by decide +kernel), List.mem_of_getElem? (i := 743) (by decide +kernel)⟩
theorem lw_p27 : lw_okq (⟨"MarkedByNext", "mixSubjectsOf", "(JI)J"⟩, 19) := ⟨⟨by decide +kernel, by decide +kernel⟩, List.mem_of_getElem? (i := 17) (by decide +kernel), List.mem_of_getElem? (i := 748) (by decide +kernel), List.mem_of_getElem? (i := 749) (by decide +kernel)⟩
theorem lw_p28 : lw_okq (⟨"MarkedByNext", "mixChancesOf", "(JI)J"⟩, 19) := ⟨⟨by decide +kernel, by decide +kernel⟩, List.mem_of_getElem? (i := 17) (by decide +kernel), List.mem_of_getElem? (i := 755) (by decide +kernel), List.mem_of_getElem? (i := 756) (by decide +kernel)⟩
theorem lw_p29 : lw_okq (⟨"MarkedByNext", "mixPlans", "(J)J"⟩, 19) := ⟨⟨by decide +kernel, by decide +kernel⟩, List.mem_of_getElem? (i := 17) (by decide +kernel), List.mem_of_getElem? (i := 766) (by decide +kernel), List.mem_of_getElem? (i := 767) (by decide +kernel)⟩
theorem lw_p30 : lw_okq (⟨"MarkedByNextModel", "faultOf", "(I)I"⟩, 44) := ⟨⟨by decide +kernel, by decide +kernel⟩, List.mem_of_getElem? (i := 776) (by decide +kernel), List.mem_of_getElem? (i := 938) (by decide +kernel), List.mem_of_getElem? (i := 939) (by decide +kernel)⟩
theorem lw_p31 : lw_okq (⟨"MarkedByNextModel", "readsBoys", "()I"⟩, 44) := ⟨⟨by decide +kernel, by decide +kernel⟩, List.mem_of_getElem? (i := 776) (by decide +kernel), List.mem_of_getElem? (i := 942) (by decide +kernel), List.mem_of_getElem? (i := 943) (by decide +kernel)⟩
def lw_privs_2 : List (MethodName × Nat) := [(⟨"MarkedByNext", "findRush", "(LMarkedByNext$Year;)V"⟩, 19), (⟨"MarkedByNext", "findTable", "()V"⟩, 19), (⟨"MarkedByNext", "findSpare", "()V"⟩, 19), (⟨"MarkedByNext", "nobodyIsIdle", "(I)Z"⟩, 19), (⟨"MarkedByNext", "findFirsts", "(II)V"⟩, 19), (⟨"MarkedByNext", "dayToAsk", "(I)I"⟩, 19), (⟨"MarkedByNext", "greatestAlike", "(II)I"⟩, 19), (⟨"MarkedByNext", "tallyBests", "()V"⟩, 19), (⟨"MarkedByNext", "drawChanges", "(II)V"⟩, 19), (⟨"MarkedByNext", "mixSeats", "(J)J"⟩, 19), (⟨"MarkedByNext", "mixDaysOf", "(JI)J"⟩, 19), (⟨"MarkedByNext", "mixSubjectsOf", "(JI)J"⟩, 19), (⟨"MarkedByNext", "mixChancesOf", "(JI)J"⟩, 19), (⟨"MarkedByNext", "mixPlans", "(J)J"⟩, 19), (⟨"MarkedByNextModel", "faultOf", "(I)I"⟩, 44), (⟨"MarkedByNextModel", "readsBoys", "()I"⟩, 44)]
theorem lw_r2 : ∀ q ∈ lw_privs_2, lw_okq q := List.forall_mem_cons.mpr ⟨lw_p16, List.forall_mem_cons.mpr ⟨lw_p17, List.forall_mem_cons.mpr ⟨lw_p18, List.forall_mem_cons.mpr ⟨lw_p19, List.forall_mem_cons.mpr ⟨lw_p20, List.forall_mem_cons.mpr ⟨lw_p21, List.forall_mem_cons.mpr ⟨lw_p22, List.forall_mem_cons.mpr ⟨lw_p23, List.forall_mem_cons.mpr ⟨lw_p24, List.forall_mem_cons.mpr ⟨lw_p25, List.forall_mem_cons.mpr ⟨lw_p26, List.forall_mem_cons.mpr ⟨lw_p27, List.forall_mem_cons.mpr ⟨lw_p28, List.forall_mem_cons.mpr ⟨lw_p29, List.forall_mem_cons.mpr ⟨lw_p30, List.forall_mem_cons.mpr ⟨lw_p31, fun _ h => absurd h List.not_mem_nil⟩⟩⟩⟩⟩⟩⟩⟩⟩⟩⟩⟩⟩⟩⟩⟩
theorem lw_p32 : lw_okq (⟨"MarkedByNextModel", "readsBoy", "(II)I"⟩, 44) := ⟨⟨by decide +kernel, by decide +kernel⟩, List.mem_of_getElem? (i := 776) (by decide +kernel), List.mem_of_getElem? (i := 946) (by decide +kernel), List.mem_of_getElem? (i := 947) (by decide +kernel)⟩
theorem lw_p33 : lw_okq (⟨"MarkedByNextModel", "sortAt", "(I)I"⟩, 44) := ⟨⟨by decide +kernel, by decide +kernel⟩, List.mem_of_getElem? (i := 776) (by decide +kernel), List.mem_of_getElem? (i := 950) (by decide +kernel), List.mem_of_getElem? (i := 951) (by decide +kernel)⟩
theorem lw_p34 : lw_okq (⟨"MarkedByNextModel", "byteAt", "(I)I"⟩, 44) := ⟨⟨by decide +kernel, by decide +kernel⟩, List.mem_of_getElem? (i := 776) (by decide +kernel), List.mem_of_getElem? (i := 954) (by decide +kernel), List.mem_of_getElem? (i := 955) (by decide +kernel)⟩
theorem lw_p35 : lw_okq (⟨"MarkedByNextModel", "readsBenches", "()I"⟩, 44) := ⟨⟨by decide +kernel, by decide +kernel⟩, List.mem_of_getElem? (i := 776) (by decide +kernel), List.mem_of_getElem? (i := 958) (by decide +kernel), List.mem_of_getElem? (i := 959) (by decide +kernel)⟩
theorem lw_p36 : lw_okq (⟨"MarkedByNextModel", "isBoy", "(I)Z"⟩, 44) := ⟨⟨by decide +kernel, by decide +kernel⟩, List.mem_of_getElem? (i := 776) (by decide +kernel), List.mem_of_getElem? (i := 969) (by decide +kernel), List.mem_of_getElem? (i := 970) (by decide +kernel)⟩
theorem lw_p37 : lw_okq (⟨"MarkedByNextModel", "reads", "()V"⟩, 44) := ⟨⟨by decide +kernel, by decide +kernel⟩, List.mem_of_getElem? (i := 776) (by decide +kernel), List.mem_of_getElem? (i := 973) (by decide +kernel), List.mem_of_getElem? (i := 974) (by decide +kernel)⟩
theorem lw_p38 : lw_okq (⟨"MarkedByNextModel", "boyOf", "(II)I"⟩, 44) := ⟨⟨by decide +kernel, by decide +kernel⟩, List.mem_of_getElem? (i := 776) (by decide +kernel), List.mem_of_getElem? (i := 977) (by decide +kernel), List.mem_of_getElem? (i := 978) (by decide +kernel)⟩
theorem lw_p39 : lw_okq (⟨"MarkedByNextModel", "isSeat", "(I)Z"⟩, 44) := ⟨⟨by decide +kernel, by decide +kernel⟩, List.mem_of_getElem? (i := 776) (by decide +kernel), List.mem_of_getElem? (i := 985) (by decide +kernel), List.mem_of_getElem? (i := 986) (by decide +kernel)⟩
theorem lw_p40 : lw_okq (⟨"MarkedByNextModel", "seatOf", "(II)I"⟩, 44) := ⟨⟨by decide +kernel, by decide +kernel⟩, List.mem_of_getElem? (i := 776) (by decide +kernel), List.mem_of_getElem? (i := 989) (by decide +kernel), List.mem_of_getElem? (i := 990) (by decide +kernel)⟩
theorem lw_p41 : lw_okq (⟨"MarkedByNextModel", "whoTold", "(I)I"⟩, 44) := ⟨⟨by decide +kernel, by decide +kernel⟩, List.mem_of_getElem? (i := 776) (by decide +kernel), List.mem_of_getElem? (i := 993) (by decide +kernel), List.mem_of_getElem? (i := 994) (by decide +kernel)⟩
theorem lw_p42 : lw_okq (⟨"MarkedByNextModel", "meets", "(I)I"⟩, 44) := ⟨⟨by decide +kernel, by decide +kernel⟩, List.mem_of_getElem? (i := 776) (by decide +kernel), List.mem_of_getElem? (i := 1019) (by decide +kernel), List.mem_of_getElem? (i := 1020) (by decide +kernel)⟩
theorem lw_p43 : lw_okq (⟨"MarkedByNextModel", "atOf", "(III)I"⟩, 44) := ⟨⟨by decide +kernel, by decide +kernel⟩, List.mem_of_getElem? (i := 776) (by decide +kernel), List.mem_of_getElem? (i := 1031) (by decide +kernel), List.mem_of_getElem? (i := 1032) (by decide +kernel)⟩
theorem lw_p44 : lw_okq (⟨"MarkedByNextModel", "runsTold", "()V"⟩, 44) := ⟨⟨by decide +kernel, by decide +kernel⟩, List.mem_of_getElem? (i := 776) (by decide +kernel), List.mem_of_getElem? (i := 1035) (by decide +kernel), List.mem_of_getElem? (i := 1036) (by decide +kernel)⟩
theorem lw_p45 : lw_okq (⟨"MarkedByNextModel", "asTold", "()V"⟩, 44) := ⟨⟨by decide +kernel, by decide +kernel⟩, List.mem_of_getElem? (i := 776) (by decide +kernel), List.mem_of_getElem? (i := 1039) (by decide +kernel), List.mem_of_getElem? (i := 1040) (by decide +kernel)⟩
theorem lw_p46 : lw_okq (⟨"MarkedByNextModel", "runs", "()V"⟩, 44) := ⟨⟨by decide +kernel, by decide +kernel⟩, List.mem_of_getElem? (i := 776) (by decide +kernel), List.mem_of_getElem? (i := 1043) (by decide +kernel), List.mem_of_getElem? (i := 1044) (by decide +kernel)⟩
theorem lw_p47 : lw_okq (⟨"MarkedByNextModel", "goesBy", "(I)V"⟩, 44) := ⟨⟨by decide +kernel, by decide +kernel⟩, List.mem_of_getElem? (i := 776) (by decide +kernel), List.mem_of_getElem? (i := 1047) (by decide +kernel), List.mem_of_getElem? (i := 1048) (by decide +kernel)⟩
def lw_privs_3 : List (MethodName × Nat) := [(⟨"MarkedByNextModel", "readsBoy", "(II)I"⟩, 44), (⟨"MarkedByNextModel", "sortAt", "(I)I"⟩, 44), (⟨"MarkedByNextModel", "byteAt", "(I)I"⟩, 44), (⟨"MarkedByNextModel", "readsBenches", "()I"⟩, 44), (⟨"MarkedByNextModel", "isBoy", "(I)Z"⟩, 44), (⟨"MarkedByNextModel", "reads", "()V"⟩, 44), (⟨"MarkedByNextModel", "boyOf", "(II)I"⟩, 44), (⟨"MarkedByNextModel", "isSeat", "(I)Z"⟩, 44), (⟨"MarkedByNextModel", "seatOf", "(II)I"⟩, 44), (⟨"MarkedByNextModel", "whoTold", "(I)I"⟩, 44), (⟨"MarkedByNextModel", "meets", "(I)I"⟩, 44), (⟨"MarkedByNextModel", "atOf", "(III)I"⟩, 44), (⟨"MarkedByNextModel", "runsTold", "()V"⟩, 44), (⟨"MarkedByNextModel", "asTold", "()V"⟩, 44), (⟨"MarkedByNextModel", "runs", "()V"⟩, 44), (⟨"MarkedByNextModel", "goesBy", "(I)V"⟩, 44)]
theorem lw_r3 : ∀ q ∈ lw_privs_3, lw_okq q := List.forall_mem_cons.mpr ⟨lw_p32, List.forall_mem_cons.mpr ⟨lw_p33, List.forall_mem_cons.mpr ⟨lw_p34, List.forall_mem_cons.mpr ⟨lw_p35, List.forall_mem_cons.mpr ⟨lw_p36, List.forall_mem_cons.mpr ⟨lw_p37, List.forall_mem_cons.mpr ⟨lw_p38, List.forall_mem_cons.mpr ⟨lw_p39, List.forall_mem_cons.mpr ⟨lw_p40, List.forall_mem_cons.mpr ⟨lw_p41, List.forall_mem_cons.mpr ⟨lw_p42, List.forall_mem_cons.mpr ⟨lw_p43, List.forall_mem_cons.mpr ⟨lw_p44, List.forall_mem_cons.mpr ⟨lw_p45, List.forall_mem_cons.mpr ⟨lw_p46, List.forall_mem_cons.mpr ⟨lw_p47, fun _ h => absurd h List.not_mem_nil⟩⟩⟩⟩⟩⟩⟩⟩⟩⟩⟩⟩⟩⟩⟩⟩
theorem lw_p48 : lw_okq (⟨"MarkedByNextModel", "changesOn", "(I)V"⟩, 44) := ⟨⟨by decide +kernel, by decide +kernel⟩, List.mem_of_getElem? (i := 776) (by decide +kernel), List.mem_of_getElem? (i := 1051) (by decide +kernel), List.mem_of_getElem? (i := 1052) (by decide +kernel)⟩
theorem lw_p49 : lw_okq (⟨"MarkedByNextModel", "teaches", "(I)V"⟩, 44) := ⟨⟨by decide +kernel, by decide +kernel⟩, List.mem_of_getElem? (i := 776) (by decide +kernel), List.mem_of_getElem? (i := 1055) (by decide +kernel), List.mem_of_getElem? (i := 1056) (by decide +kernel)⟩
theorem lw_p50 : lw_okq (⟨"MarkedByNextModel", "gainOf", "(II)I"⟩, 44) := ⟨⟨by decide +kernel, by decide +kernel⟩, List.mem_of_getElem? (i := 776) (by decide +kernel), List.mem_of_getElem? (i := 1059) (by decide +kernel), List.mem_of_getElem? (i := 1060) (by decide +kernel)⟩
theorem lw_p51 : lw_okq (⟨"MarkedByNextModel", "beside", "(II)I"⟩, 44) := ⟨⟨by decide +kernel, by decide +kernel⟩, List.mem_of_getElem? (i := 776) (by decide +kernel), List.mem_of_getElem? (i := 1063) (by decide +kernel), List.mem_of_getElem? (i := 1064) (by decide +kernel)⟩
theorem lw_p52 : lw_okq (⟨"MarkedByNextModel", "moreThan", "(III)I"⟩, 44) := ⟨⟨by decide +kernel, by decide +kernel⟩, List.mem_of_getElem? (i := 776) (by decide +kernel), List.mem_of_getElem? (i := 1067) (by decide +kernel), List.mem_of_getElem? (i := 1068) (by decide +kernel)⟩
theorem lw_p53 : lw_okq (⟨"MarkedByNextModel", "gained", "(I)I"⟩, 44) := ⟨⟨by decide +kernel, by decide +kernel⟩, List.mem_of_getElem? (i := 776) (by decide +kernel), List.mem_of_getElem? (i := 1071) (by decide +kernel), List.mem_of_getElem? (i := 1072) (by decide +kernel)⟩
theorem lw_p54 : lw_okq (⟨"MarkedByNextModel", "placeOf", "(II)I"⟩, 44) := ⟨⟨by decide +kernel, by decide +kernel⟩, List.mem_of_getElem? (i := 776) (by decide +kernel), List.mem_of_getElem? (i := 1075) (by decide +kernel), List.mem_of_getElem? (i := 1076) (by decide +kernel)⟩
theorem lw_p55 : lw_okq (⟨"MarkedByNextModel", "knowsOf", "(III)I"⟩, 44) := ⟨⟨by decide +kernel, by decide +kernel⟩, List.mem_of_getElem? (i := 776) (by decide +kernel), List.mem_of_getElem? (i := 1083) (by decide +kernel), List.mem_of_getElem? (i := 1084) (by decide +kernel)⟩
theorem lw_p56 : lw_okq (⟨"MarkedByNextModel", "sitsOf", "(II)I"⟩, 44) := ⟨⟨by decide +kernel, by decide +kernel⟩, List.mem_of_getElem? (i := 776) (by decide +kernel), List.mem_of_getElem? (i := 1091) (by decide +kernel), List.mem_of_getElem? (i := 1092) (by decide +kernel)⟩
theorem lw_p57 : lw_okq (⟨"MarkedByNextModel", "ghostOf", "(I)I"⟩, 44) := ⟨⟨by decide +kernel, by decide +kernel⟩, List.mem_of_getElem? (i := 776) (by decide +kernel), List.mem_of_getElem? (i := 1099) (by decide +kernel), List.mem_of_getElem? (i := 1100) (by decide +kernel)⟩
theorem lw_p58 : lw_okq (⟨"MarkedByNextModel", "masterOf", "(I)I"⟩, 44) := ⟨⟨by decide +kernel, by decide +kernel⟩, List.mem_of_getElem? (i := 776) (by decide +kernel), List.mem_of_getElem? (i := 1107) (by decide +kernel), List.mem_of_getElem? (i := 1108) (by decide +kernel)⟩
theorem lw_p59 : lw_okq (⟨"MarkedByNextModel", "bestOf", "()I"⟩, 44) := ⟨⟨by decide +kernel, by decide +kernel⟩, List.mem_of_getElem? (i := 776) (by decide +kernel), List.mem_of_getElem? (i := 1115) (by decide +kernel), List.mem_of_getElem? (i := 1116) (by decide +kernel)⟩
theorem lw_p60 : lw_okq (⟨"MarkedByNextModel", "bestNow", "()I"⟩, 44) := ⟨⟨by decide +kernel, by decide +kernel⟩, List.mem_of_getElem? (i := 776) (by decide +kernel), List.mem_of_getElem? (i := 1119) (by decide +kernel), List.mem_of_getElem? (i := 1120) (by decide +kernel)⟩
theorem lw_p61 : lw_okq (⟨"MarkedByNextModel", "formOf", "()I"⟩, 44) := ⟨⟨by decide +kernel, by decide +kernel⟩, List.mem_of_getElem? (i := 776) (by decide +kernel), List.mem_of_getElem? (i := 1127) (by decide +kernel), List.mem_of_getElem? (i := 1128) (by decide +kernel)⟩
theorem lw_p62 : lw_okq (⟨"MarkedByNextModel", "formNow", "()I"⟩, 44) := ⟨⟨by decide +kernel, by decide +kernel⟩, List.mem_of_getElem? (i := 776) (by decide +kernel), List.mem_of_getElem? (i := 1131) (by decide +kernel), List.mem_of_getElem? (i := 1132) (by decide +kernel)⟩
theorem lw_p63 : lw_okq (⟨"MarkedByNextModel", "idleOf", "()I"⟩, 44) := ⟨⟨by decide +kernel, by decide +kernel⟩, List.mem_of_getElem? (i := 776) (by decide +kernel), List.mem_of_getElem? (i := 1139) (by decide +kernel), List.mem_of_getElem? (i := 1140) (by decide +kernel)⟩
def lw_privs_4 : List (MethodName × Nat) := [(⟨"MarkedByNextModel", "changesOn", "(I)V"⟩, 44), (⟨"MarkedByNextModel", "teaches", "(I)V"⟩, 44), (⟨"MarkedByNextModel", "gainOf", "(II)I"⟩, 44), (⟨"MarkedByNextModel", "beside", "(II)I"⟩, 44), (⟨"MarkedByNextModel", "moreThan", "(III)I"⟩, 44), (⟨"MarkedByNextModel", "gained", "(I)I"⟩, 44), (⟨"MarkedByNextModel", "placeOf", "(II)I"⟩, 44), (⟨"MarkedByNextModel", "knowsOf", "(III)I"⟩, 44), (⟨"MarkedByNextModel", "sitsOf", "(II)I"⟩, 44), (⟨"MarkedByNextModel", "ghostOf", "(I)I"⟩, 44), (⟨"MarkedByNextModel", "masterOf", "(I)I"⟩, 44), (⟨"MarkedByNextModel", "bestOf", "()I"⟩, 44), (⟨"MarkedByNextModel", "bestNow", "()I"⟩, 44), (⟨"MarkedByNextModel", "formOf", "()I"⟩, 44), (⟨"MarkedByNextModel", "formNow", "()I"⟩, 44), (⟨"MarkedByNextModel", "idleOf", "()I"⟩, 44)]
theorem lw_r4 : ∀ q ∈ lw_privs_4, lw_okq q := List.forall_mem_cons.mpr ⟨lw_p48, List.forall_mem_cons.mpr ⟨lw_p49, List.forall_mem_cons.mpr ⟨lw_p50, List.forall_mem_cons.mpr ⟨lw_p51, List.forall_mem_cons.mpr ⟨lw_p52, List.forall_mem_cons.mpr ⟨lw_p53, List.forall_mem_cons.mpr ⟨lw_p54, List.forall_mem_cons.mpr ⟨lw_p55, List.forall_mem_cons.mpr ⟨lw_p56, List.forall_mem_cons.mpr ⟨lw_p57, List.forall_mem_cons.mpr ⟨lw_p58, List.forall_mem_cons.mpr ⟨lw_p59, List.forall_mem_cons.mpr ⟨lw_p60, List.forall_mem_cons.mpr ⟨lw_p61, List.forall_mem_cons.mpr ⟨lw_p62, List.forall_mem_cons.mpr ⟨lw_p63, fun _ h => absurd h List.not_mem_nil⟩⟩⟩⟩⟩⟩⟩⟩⟩⟩⟩⟩⟩⟩⟩⟩
theorem lw_p64 : lw_okq (⟨"MarkedByNextModel", "idleNow", "()I"⟩, 44) := ⟨⟨by decide +kernel, by decide +kernel⟩, List.mem_of_getElem? (i := 776) (by decide +kernel), List.mem_of_getElem? (i := 1143) (by decide +kernel), List.mem_of_getElem? (i := 1144) (by decide +kernel)⟩
theorem lw_p65 : lw_okq (⟨"MarkedByNextModel", "sitOf", "(II)I"⟩, 44) := ⟨⟨by decide +kernel, by decide +kernel⟩, List.mem_of_getElem? (i := 776) (by decide +kernel), List.mem_of_getElem? (i := 1151) (by decide +kernel), List.mem_of_getElem? (i := 1152) (by decide +kernel)⟩
theorem lw_p66 : lw_okq (⟨"MarkedByNextModel", "placeTold", "(I)I"⟩, 44) := ⟨⟨by decide +kernel, by decide +kernel⟩, List.mem_of_getElem? (i := 776) (by decide +kernel), List.mem_of_getElem? (i := 1155) (by decide +kernel), List.mem_of_getElem? (i := 1156) (by decide +kernel)⟩
theorem lw_p67 : lw_okq (⟨"MarkedByNextModel", "swaps", "(II)V"⟩, 44) := ⟨⟨by decide +kernel, by decide +kernel⟩, List.mem_of_getElem? (i := 776) (by decide +kernel), List.mem_of_getElem? (i := 1159) (by decide +kernel), List.mem_of_getElem? (i := 1160) (by decide +kernel)⟩
theorem lw_p68 : lw_okq (⟨"MarkedByNextModel", "tradeOf", "(II)I"⟩, 44) := ⟨⟨by decide +kernel, by decide +kernel⟩, List.mem_of_getElem? (i := 776) (by decide +kernel), List.mem_of_getElem? (i := 1167) (by decide +kernel), List.mem_of_getElem? (i := 1168) (by decide +kernel)⟩
theorem lw_p69 : lw_okq (⟨"MarkedByNextModel", "rushOf", "(I)I"⟩, 44) := ⟨⟨by decide +kernel, by decide +kernel⟩, List.mem_of_getElem? (i := 776) (by decide +kernel), List.mem_of_getElem? (i := 1175) (by decide +kernel), List.mem_of_getElem? (i := 1176) (by decide +kernel)⟩
theorem lw_p70 : lw_okq (⟨"MarkedByNextModel", "tableOf", "(I)I"⟩, 44) := ⟨⟨by decide +kernel, by decide +kernel⟩, List.mem_of_getElem? (i := 776) (by decide +kernel), List.mem_of_getElem? (i := 1183) (by decide +kernel), List.mem_of_getElem? (i := 1184) (by decide +kernel)⟩
theorem lw_p71 : lw_okq (⟨"MarkedByNextModel", "spareBy", "()I"⟩, 44) := ⟨⟨by decide +kernel, by decide +kernel⟩, List.mem_of_getElem? (i := 776) (by decide +kernel), List.mem_of_getElem? (i := 1191) (by decide +kernel), List.mem_of_getElem? (i := 1192) (by decide +kernel)⟩
theorem lw_p72 : lw_okq (⟨"MarkedByNextModel", "isSpared", "(I)Z"⟩, 44) := ⟨⟨by decide +kernel, by decide +kernel⟩, List.mem_of_getElem? (i := 776) (by decide +kernel), List.mem_of_getElem? (i := 1195) (by decide +kernel), List.mem_of_getElem? (i := 1196) (by decide +kernel)⟩
theorem lw_p73 : lw_okq (⟨"MarkedByNextModel", "ofRow", "(II)I"⟩, 44) := ⟨⟨by decide +kernel, by decide +kernel⟩, List.mem_of_getElem? (i := 776) (by decide +kernel), List.mem_of_getElem? (i := 1199) (by decide +kernel), List.mem_of_getElem? (i := 1200) (by decide +kernel)⟩
theorem lw_p74 : lw_okq (⟨"MarkedByNextModel", "neverNow", "()I"⟩, 44) := ⟨⟨by decide +kernel, by decide +kernel⟩, List.mem_of_getElem? (i := 776) (by decide +kernel), List.mem_of_getElem? (i := 1218) (by decide +kernel), List.mem_of_getElem? (i := 1219) (by decide +kernel)⟩
theorem lw_p75 : lw_okq (⟨"MarkedByNextModel", "isSeen", "()Z"⟩, 44) := ⟨⟨by decide +kernel, by decide +kernel⟩, List.mem_of_getElem? (i := 776) (by decide +kernel), List.mem_of_getElem? (i := 1222) (by decide +kernel), List.mem_of_getElem? (i := 1223) (by decide +kernel)⟩
theorem lw_p76 : lw_okq (⟨"MarkedByNextModel", "sortsBy", "(I)I"⟩, 44) := ⟨⟨by decide +kernel, by decide +kernel⟩, List.mem_of_getElem? (i := 776) (by decide +kernel), List.mem_of_getElem? (i := 1230) (by decide +kernel), List.mem_of_getElem? (i := 1231) (by decide +kernel)⟩
theorem lw_p77 : lw_okq (⟨"MarkedByNextModel", "firstBy", "(II)I"⟩, 44) := ⟨⟨by decide +kernel, by decide +kernel⟩, List.mem_of_getElem? (i := 776) (by decide +kernel), List.mem_of_getElem? (i := 1238) (by decide +kernel), List.mem_of_getElem? (i := 1239) (by decide +kernel)⟩
theorem lw_p78 : lw_okq (⟨"MarkedByNextModel", "askOf", "(II)I"⟩, 44) := ⟨⟨by decide +kernel, by decide +kernel⟩, List.mem_of_getElem? (i := 776) (by decide +kernel), List.mem_of_getElem? (i := 1246) (by decide +kernel), List.mem_of_getElem? (i := 1247) (by decide +kernel)⟩
theorem lw_p79 : lw_okq (⟨"MarkedByNextModel", "luckOf", "(III)J"⟩, 44) := ⟨⟨by decide +kernel, by decide +kernel⟩, List.mem_of_getElem? (i := 776) (by decide +kernel), List.mem_of_getElem? (i := 1254) (by decide +kernel), List.mem_of_getElem? (i := 1255) (by decide +kernel)⟩
def lw_privs_5 : List (MethodName × Nat) := [(⟨"MarkedByNextModel", "idleNow", "()I"⟩, 44), (⟨"MarkedByNextModel", "sitOf", "(II)I"⟩, 44), (⟨"MarkedByNextModel", "placeTold", "(I)I"⟩, 44), (⟨"MarkedByNextModel", "swaps", "(II)V"⟩, 44), (⟨"MarkedByNextModel", "tradeOf", "(II)I"⟩, 44), (⟨"MarkedByNextModel", "rushOf", "(I)I"⟩, 44), (⟨"MarkedByNextModel", "tableOf", "(I)I"⟩, 44), (⟨"MarkedByNextModel", "spareBy", "()I"⟩, 44), (⟨"MarkedByNextModel", "isSpared", "(I)Z"⟩, 44), (⟨"MarkedByNextModel", "ofRow", "(II)I"⟩, 44), (⟨"MarkedByNextModel", "neverNow", "()I"⟩, 44), (⟨"MarkedByNextModel", "isSeen", "()Z"⟩, 44), (⟨"MarkedByNextModel", "sortsBy", "(I)I"⟩, 44), (⟨"MarkedByNextModel", "firstBy", "(II)I"⟩, 44), (⟨"MarkedByNextModel", "askOf", "(II)I"⟩, 44), (⟨"MarkedByNextModel", "luckOf", "(III)J"⟩, 44)]
theorem lw_r5 : ∀ q ∈ lw_privs_5, lw_okq q := List.forall_mem_cons.mpr ⟨lw_p64, List.forall_mem_cons.mpr ⟨lw_p65, List.forall_mem_cons.mpr ⟨lw_p66, List.forall_mem_cons.mpr ⟨lw_p67, List.forall_mem_cons.mpr ⟨lw_p68, List.forall_mem_cons.mpr ⟨lw_p69, List.forall_mem_cons.mpr ⟨lw_p70, List.forall_mem_cons.mpr ⟨lw_p71, List.forall_mem_cons.mpr ⟨lw_p72, List.forall_mem_cons.mpr ⟨lw_p73, List.forall_mem_cons.mpr ⟨lw_p74, List.forall_mem_cons.mpr ⟨lw_p75, List.forall_mem_cons.mpr ⟨lw_p76, List.forall_mem_cons.mpr ⟨lw_p77, List.forall_mem_cons.mpr ⟨lw_p78, List.forall_mem_cons.mpr ⟨lw_p79, fun _ h => absurd h List.not_mem_nil⟩⟩⟩⟩⟩⟩⟩⟩⟩⟩⟩⟩⟩⟩⟩⟩
theorem lw_p80 : lw_okq (⟨"MarkedByNextModel", "yearsOf", "(III)I"⟩, 44) := ⟨⟨by decide +kernel, by decide +kernel⟩, List.mem_of_getElem? (i := 776) (by decide +kernel), List.mem_of_getElem? (i := 1269) (by decide +kernel), List.mem_of_getElem? (i := 1270) (by decide +kernel)⟩
theorem lw_p81 : lw_okq (⟨"MarkedByNextModel", "marksAll", "()I"⟩, 44) := ⟨⟨by decide +kernel, by decide +kernel⟩, List.mem_of_getElem? (i := 776) (by decide +kernel), List.mem_of_getElem? (i := 1274) (by decide +kernel), List.mem_of_getElem? (i := 1275) (by decide +kernel)⟩
theorem lw_p82 : lw_okq (⟨"MarkedByNextModel", "lacks", "(III)I"⟩, 44) := ⟨⟨by decide +kernel, by decide +kernel⟩, List.mem_of_getElem? (i := 776) (by decide +kernel), List.mem_of_getElem? (i := 1290) (by decide +kernel), List.mem_of_getElem? (i := 1291) (by decide +kernel)⟩
theorem lw_p83 : lw_okq (⟨"MarkedByNextModel", "keep", "(III)V"⟩, 44) := ⟨⟨by decide +kernel, by decide +kernel⟩, List.mem_of_getElem? (i := 776) (by decide +kernel), List.mem_of_getElem? (i := 1294) (by decide +kernel), List.mem_of_getElem? (i := 1295) (by decide +kernel)⟩
theorem lw_p84 : lw_okq (⟨"MarkedByNextModel", "sumOf", "(I)I"⟩, 44) := ⟨⟨by decide +kernel, by decide +kernel⟩, List.mem_of_getElem? (i := 776) (by decide +kernel), List.mem_of_getElem? (i := 1315) (by decide +kernel), List.mem_of_getElem? (i := 1316) (by decide +kernel)⟩
theorem lw_p85 : lw_okq (⟨"MarkedByNextModel", "ghostsAll", "()I"⟩, 44) := ⟨⟨by decide +kernel, by decide +kernel⟩, List.mem_of_getElem? (i := 776) (by decide +kernel), List.mem_of_getElem? (i := 1319) (by decide +kernel), List.mem_of_getElem? (i := 1320) (by decide +kernel)⟩
theorem lw_p86 : lw_okq (⟨"MarkedByNextModel", "seatDigest", "(JI)J"⟩, 44) := ⟨⟨by decide +kernel, by decide +kernel⟩, List.mem_of_getElem? (i := 776) (by decide +kernel), List.mem_of_getElem? (i := 1330) (by decide +kernel), List.mem_of_getElem? (i := 1331) (by decide +kernel)⟩
theorem lw_p87 : lw_okq (⟨"MarkedByNextModel", "boyDigest", "(JI)J"⟩, 44) := ⟨⟨by decide +kernel, by decide +kernel⟩, List.mem_of_getElem? (i := 776) (by decide +kernel), List.mem_of_getElem? (i := 1334) (by decide +kernel), List.mem_of_getElem? (i := 1335) (by decide +kernel)⟩
theorem lw_p88 : lw_okq (⟨"MarkedByNextModel", "atDigest", "(JII)J"⟩, 44) := ⟨⟨by decide +kernel, by decide +kernel⟩, List.mem_of_getElem? (i := 776) (by decide +kernel), List.mem_of_getElem? (i := 1338) (by decide +kernel), List.mem_of_getElem? (i := 1339) (by decide +kernel)⟩
def lw_privs_6 : List (MethodName × Nat) := [(⟨"MarkedByNextModel", "yearsOf", "(III)I"⟩, 44), (⟨"MarkedByNextModel", "marksAll", "()I"⟩, 44), (⟨"MarkedByNextModel", "lacks", "(III)I"⟩, 44), (⟨"MarkedByNextModel", "keep", "(III)V"⟩, 44), (⟨"MarkedByNextModel", "sumOf", "(I)I"⟩, 44), (⟨"MarkedByNextModel", "ghostsAll", "()I"⟩, 44), (⟨"MarkedByNextModel", "seatDigest", "(JI)J"⟩, 44), (⟨"MarkedByNextModel", "boyDigest", "(JI)J"⟩, 44), (⟨"MarkedByNextModel", "atDigest", "(JII)J"⟩, 44)]
theorem lw_r6 : ∀ q ∈ lw_privs_6, lw_okq q := List.forall_mem_cons.mpr ⟨lw_p80, List.forall_mem_cons.mpr ⟨lw_p81, List.forall_mem_cons.mpr ⟨lw_p82, List.forall_mem_cons.mpr ⟨lw_p83, List.forall_mem_cons.mpr ⟨lw_p84, List.forall_mem_cons.mpr ⟨lw_p85, List.forall_mem_cons.mpr ⟨lw_p86, List.forall_mem_cons.mpr ⟨lw_p87, List.forall_mem_cons.mpr ⟨lw_p88, fun _ h => absurd h List.not_mem_nil⟩⟩⟩⟩⟩⟩⟩⟩⟩
def lw_privs : List (MethodName × Nat) := lw_privs_1 ++ (lw_privs_2 ++ (lw_privs_3 ++ (lw_privs_4 ++ (lw_privs_5 ++ (lw_privs_6)))))
def lw_tbl : List Cond := k2_sels lw_privs ++ tables_1
theorem lw_privs_ok : ∀ q ∈ lw_privs, lw_okq q := by
  show ∀ q ∈ lw_privs_1 ++ (lw_privs_2 ++ (lw_privs_3 ++ (lw_privs_4 ++ (lw_privs_5 ++ (lw_privs_6))))), lw_okq q
  exact List.forall_mem_append.mpr ⟨lw_r1, List.forall_mem_append.mpr ⟨lw_r2, List.forall_mem_append.mpr ⟨lw_r3, List.forall_mem_append.mpr ⟨lw_r4, List.forall_mem_append.mpr ⟨lw_r5, lw_r6⟩⟩⟩⟩⟩
def lw_g : List Cond := lw_tbl.filter goodWord
theorem lw_g_in {w : Cond} (h : w ∈ lw_tbl) (hg : goodWord w = true) : w ∈ lw_g := List.mem_filter.mpr ⟨h, hg⟩
theorem lw_g_good : GoodIn lw_g lw_g := fun w h => ⟨h, good_of_word (List.mem_filter.mp h).2⟩
theorem lw_g_all {ws : List Cond} (h : ws.all (fun w => decide (w ∈ lw_tbl) && goodWord w) = true) : ∀ w ∈ ws, w ∈ lw_g := by
  intro w hw
  have h1 := List.all_eq_true.mp h w hw
  rw [Bool.and_eq_true, decide_eq_true_eq] at h1
  exact lw_g_in h1.1 h1.2
def RX0 : String := "MarkedByNext$Benches"
def TX0 : u_T := fun k => match k with
  | 0 => ("MarkedByNext$Benches", "letters", "[I", true)
  | 1 => ("MarkedByNext$Benches", "benchOf", "[I", true)
  | 2 => ("MarkedByNext$Benches", "number", "I", false)
  | _ => ("MarkedByNext$Benches", "faultPlace", "I", false)
def tyX0 : Nat → FieldType := fun k => match k with
  | 0 => .array .int
  | 1 => .array .int
  | 2 => .int
  | _ => .int
theorem nmX0 : ∀ a, a < 4 → ∀ b, b < 4 → a ≠ b → (TX0 a).2.1 ≠ (TX0 b).2.1 := by decide +kernel
theorem tyX0_ok : ∀ k, k < 4 → parseFieldDescriptor (TX0 k).2.2.1 = some (tyX0 k) := by decide +kernel
theorem inX0 : ∀ w ∈ u_ws RX0 TX0 4, w ∈ lw_g := lw_g_all (by decide +kernel)
def RX1 : String := "MarkedByNext$Changes"
def TX1 : u_T := fun k => match k with
  | 0 => ("MarkedByNext$Changes", "days", "[I", true)
  | 1 => ("MarkedByNext$Changes", "ones", "[I", true)
  | 2 => ("MarkedByNext$Changes", "others", "[I", true)
  | _ => ("MarkedByNext$Changes", "number", "I", false)
def tyX1 : Nat → FieldType := fun k => match k with
  | 0 => .array .int
  | 1 => .array .int
  | 2 => .array .int
  | _ => .int
theorem nmX1 : ∀ a, a < 4 → ∀ b, b < 4 → a ≠ b → (TX1 a).2.1 ≠ (TX1 b).2.1 := by decide +kernel
theorem tyX1_ok : ∀ k, k < 4 → parseFieldDescriptor (TX1 k).2.2.1 = some (tyX1 k) := by decide +kernel
theorem inX1 : ∀ w ∈ u_ws RX1 TX1 4, w ∈ lw_g := lw_g_all (by decide +kernel)
def RX2 : String := "MarkedByNext$Lots"
def TX2 : u_T := fun k => match k with
  | _ => ("MarkedByNext$Lots", "seed", "I", false)
def tyX2 : Nat → FieldType := fun k => match k with
  | _ => .int
theorem nmX2 : ∀ a, a < 1 → ∀ b, b < 1 → a ≠ b → (TX2 a).2.1 ≠ (TX2 b).2.1 := by decide +kernel
theorem tyX2_ok : ∀ k, k < 1 → parseFieldDescriptor (TX2 k).2.2.1 = some (tyX2 k) := by decide +kernel
theorem inX2 : ∀ w ∈ u_ws RX2 TX2 1, w ∈ lw_g := lw_g_all (by decide +kernel)
def RX3 : String := "MarkedByNext$Roll"
def TX3 : u_T := fun k => match k with
  | 0 => ("MarkedByNext$Roll", "sorts", "[I", true)
  | 1 => ("MarkedByNext$Roll", "firsts", "[I", true)
  | 2 => ("MarkedByNext$Roll", "number", "I", false)
  | _ => ("MarkedByNext$Roll", "faultPlace", "I", false)
def tyX3 : Nat → FieldType := fun k => match k with
  | 0 => .array .int
  | 1 => .array .int
  | 2 => .int
  | _ => .int
theorem nmX3 : ∀ a, a < 4 → ∀ b, b < 4 → a ≠ b → (TX3 a).2.1 ≠ (TX3 b).2.1 := by decide +kernel
theorem tyX3_ok : ∀ k, k < 4 → parseFieldDescriptor (TX3 k).2.2.1 = some (tyX3 k) := by decide +kernel
theorem inX3 : ∀ w ∈ u_ws RX3 TX3 4, w ∈ lw_g := lw_g_all (by decide +kernel)
def RX4 : String := "MarkedByNext$Seens"
def TX4 : u_T := fun k => match k with
  | 0 => ("MarkedByNext$Seens", "days", "[I", true)
  | 1 => ("MarkedByNext$Seens", "boys", "[I", true)
  | 2 => ("MarkedByNext$Seens", "subjects", "[I", true)
  | 3 => ("MarkedByNext$Seens", "muches", "[I", true)
  | _ => ("MarkedByNext$Seens", "number", "I", false)
def tyX4 : Nat → FieldType := fun k => match k with
  | 0 => .array .int
  | 1 => .array .int
  | 2 => .array .int
  | 3 => .array .int
  | _ => .int
theorem nmX4 : ∀ a, a < 5 → ∀ b, b < 5 → a ≠ b → (TX4 a).2.1 ≠ (TX4 b).2.1 := by decide +kernel
theorem tyX4_ok : ∀ k, k < 5 → parseFieldDescriptor (TX4 k).2.2.1 = some (tyX4 k) := by decide +kernel
theorem inX4 : ∀ w ∈ u_ws RX4 TX4 5, w ∈ lw_g := lw_g_all (by decide +kernel)
def RX5 : String := "MarkedByNext$Sheet"
def TX5 : u_T := fun k => match k with
  | 0 => ("MarkedByNext$Sheet", "items", "[I", true)
  | 1 => ("MarkedByNext$Sheet", "number", "I", false)
  | 2 => ("MarkedByNext$Sheet", "kind", "I", false)
  | _ => ("MarkedByNext$Sheet", "isLost", "Z", false)
def tyX5 : Nat → FieldType := fun k => match k with
  | 0 => .array .int
  | 1 => .int
  | 2 => .int
  | _ => .boolean
theorem nmX5 : ∀ a, a < 4 → ∀ b, b < 4 → a ≠ b → (TX5 a).2.1 ≠ (TX5 b).2.1 := by decide +kernel
theorem tyX5_ok : ∀ k, k < 4 → parseFieldDescriptor (TX5 k).2.2.1 = some (tyX5 k) := by decide +kernel
theorem inX5 : ∀ w ∈ u_ws RX5 TX5 4, w ∈ lw_g := lw_g_all (by decide +kernel)
def RX6 : String := "MarkedByNext$Tally"
def TX6 : u_T := fun k => match k with
  | 0 => ("MarkedByNext$Tally", "ways", "[I", true)
  | _ => ("MarkedByNext$Tally", "isFresh", "Z", false)
def tyX6 : Nat → FieldType := fun k => match k with
  | 0 => .array .int
  | _ => .boolean
theorem nmX6 : ∀ a, a < 2 → ∀ b, b < 2 → a ≠ b → (TX6 a).2.1 ≠ (TX6 b).2.1 := by decide +kernel
theorem tyX6_ok : ∀ k, k < 2 → parseFieldDescriptor (TX6 k).2.2.1 = some (tyX6 k) := by decide +kernel
theorem inX6 : ∀ w ∈ u_ws RX6 TX6 2, w ∈ lw_g := lw_g_all (by decide +kernel)
def RX7 : String := "MarkedByNext$Text"
def TX7 : u_T := fun k => match k with
  | 0 => ("MarkedByNext$Text", "bytes", "[I", true)
  | _ => ("MarkedByNext$Text", "length", "I", false)
def tyX7 : Nat → FieldType := fun k => match k with
  | 0 => .array .int
  | _ => .int
theorem nmX7 : ∀ a, a < 2 → ∀ b, b < 2 → a ≠ b → (TX7 a).2.1 ≠ (TX7 b).2.1 := by decide +kernel
theorem tyX7_ok : ∀ k, k < 2 → parseFieldDescriptor (TX7 k).2.2.1 = some (tyX7 k) := by decide +kernel
theorem inX7 : ∀ w ∈ u_ws RX7 TX7 2, w ∈ lw_g := lw_g_all (by decide +kernel)
def RX8 : String := "MarkedByNext$Year"
def TX8 : u_T := fun k => match k with
  | 0 => ("MarkedByNext$Year", "sitters", "[I", true)
  | 1 => ("MarkedByNext$Year", "known", "[I", true)
  | 2 => ("MarkedByNext$Year", "marks", "[I", true)
  | 3 => ("MarkedByNext$Year", "gains", "[I", true)
  | 4 => ("MarkedByNext$Year", "ghosts", "[I", true)
  | 5 => ("MarkedByNext$Year", "sorts", "[I", true)
  | 6 => ("MarkedByNext$Year", "benchOf", "[I", true)
  | 7 => ("MarkedByNext$Year", "order", "[I", true)
  | 8 => ("MarkedByNext$Year", "boys", "I", false)
  | _ => ("MarkedByNext$Year", "seats", "I", false)
def tyX8 : Nat → FieldType := fun k => match k with
  | 0 => .array .int
  | 1 => .array .int
  | 2 => .array .int
  | 3 => .array .int
  | 4 => .array .int
  | 5 => .array .int
  | 6 => .array .int
  | 7 => .array .int
  | 8 => .int
  | _ => .int
theorem nmX8 : ∀ a, a < 10 → ∀ b, b < 10 → a ≠ b → (TX8 a).2.1 ≠ (TX8 b).2.1 := by decide +kernel
theorem tyX8_ok : ∀ k, k < 10 → parseFieldDescriptor (TX8 k).2.2.1 = some (tyX8 k) := by decide +kernel
theorem inX8 : ∀ w ∈ u_ws RX8 TX8 10, w ∈ lw_g := lw_g_all (by decide +kernel)
def RX9 : String := "MarkedByNext"
def TX9 : u_T := fun k => match k with
  | 0 => ("MarkedByNext", "boyText", "LMarkedByNext$Text;", true)
  | 1 => ("MarkedByNext", "benchText", "LMarkedByNext$Text;", true)
  | 2 => ("MarkedByNext", "roll", "LMarkedByNext$Roll;", true)
  | 3 => ("MarkedByNext", "benches", "LMarkedByNext$Benches;", true)
  | 4 => ("MarkedByNext", "changes", "LMarkedByNext$Changes;", true)
  | 5 => ("MarkedByNext", "seens", "LMarkedByNext$Seens;", true)
  | 6 => ("MarkedByNext", "sheets", "[LMarkedByNext$Sheet;", true)
  | 7 => ("MarkedByNext", "told", "LMarkedByNext$Year;", true)
  | 8 => ("MarkedByNext", "trial", "LMarkedByNext$Year;", true)
  | 9 => ("MarkedByNext", "trialChanges", "LMarkedByNext$Changes;", true)
  | 10 => ("MarkedByNext", "lots", "LMarkedByNext$Lots;", true)
  | 11 => ("MarkedByNext", "tally", "LMarkedByNext$Tally;", true)
  | 12 => ("MarkedByNext", "answers", "[I", true)
  | 13 => ("MarkedByNext", "askRows", "[I", true)
  | 14 => ("MarkedByNext", "askSizes", "[I", true)
  | 15 => ("MarkedByNext", "mastery", "I", false)
  | 16 => ("MarkedByNext", "finding", "I", false)
  | 17 => ("MarkedByNext", "answered", "I", false)
  | _ => ("MarkedByNext", "toldIsFresh", "Z", false)
def tyX9 : Nat → FieldType := fun k => match k with
  | 0 => .object "MarkedByNext$Text"
  | 1 => .object "MarkedByNext$Text"
  | 2 => .object "MarkedByNext$Roll"
  | 3 => .object "MarkedByNext$Benches"
  | 4 => .object "MarkedByNext$Changes"
  | 5 => .object "MarkedByNext$Seens"
  | 6 => .array (.object "MarkedByNext$Sheet")
  | 7 => .object "MarkedByNext$Year"
  | 8 => .object "MarkedByNext$Year"
  | 9 => .object "MarkedByNext$Changes"
  | 10 => .object "MarkedByNext$Lots"
  | 11 => .object "MarkedByNext$Tally"
  | 12 => .array .int
  | 13 => .array .int
  | 14 => .array .int
  | 15 => .int
  | 16 => .int
  | 17 => .int
  | _ => .boolean
theorem nmX9 : ∀ a, a < 19 → ∀ b, b < 19 → a ≠ b → (TX9 a).2.1 ≠ (TX9 b).2.1 := by decide +kernel
theorem tyX9_ok : ∀ k, k < 19 → parseFieldDescriptor (TX9 k).2.2.1 = some (tyX9 k) := by decide +kernel
theorem inX9 : ∀ w ∈ u_ws RX9 TX9 19, w ∈ lw_g := lw_g_all (by decide +kernel)
def RX10 : String := "MarkedByNextModel"
def TX10 : u_T := fun k => match k with
  | 0 => ("MarkedByNextModel", "typed", "[I", true)
  | 1 => ("MarkedByNextModel", "texts", "[I", true)
  | 2 => ("MarkedByNextModel", "boys", "I", false)
  | 3 => ("MarkedByNextModel", "sorts", "[I", true)
  | 4 => ("MarkedByNextModel", "firsts", "[I", true)
  | 5 => ("MarkedByNextModel", "seats", "I", false)
  | 6 => ("MarkedByNextModel", "seatTold", "[I", true)
  | 7 => ("MarkedByNextModel", "benchOf", "[I", true)
  | 8 => ("MarkedByNextModel", "mastersTold", "I", false)
  | 9 => ("MarkedByNextModel", "changes", "I", false)
  | 10 => ("MarkedByNextModel", "changeDay", "[I", true)
  | 11 => ("MarkedByNextModel", "changeOne", "[I", true)
  | 12 => ("MarkedByNextModel", "changeOther", "[I", true)
  | 13 => ("MarkedByNextModel", "startNow", "[I", true)
  | 14 => ("MarkedByNextModel", "changesNow", "I", false)
  | 15 => ("MarkedByNextModel", "dayNow", "[I", true)
  | 16 => ("MarkedByNextModel", "oneNow", "[I", true)
  | 17 => ("MarkedByNextModel", "otherNow", "[I", true)
  | 18 => ("MarkedByNextModel", "notChanges", "I", false)
  | 19 => ("MarkedByNextModel", "order", "[I", true)
  | 20 => ("MarkedByNextModel", "who", "[I", true)
  | 21 => ("MarkedByNextModel", "known", "[I", true)
  | 22 => ("MarkedByNextModel", "marks", "[I", true)
  | 23 => ("MarkedByNextModel", "gains", "[I", true)
  | 24 => ("MarkedByNextModel", "ghosts", "[I", true)
  | 25 => ("MarkedByNextModel", "busy", "I", false)
  | 26 => ("MarkedByNextModel", "whoAt", "[I", true)
  | 27 => ("MarkedByNextModel", "markAt", "[I", true)
  | 28 => ("MarkedByNextModel", "gainAt", "[I", true)
  | 29 => ("MarkedByNextModel", "knownAt", "[I", true)
  | 30 => ("MarkedByNextModel", "marksTold", "[I", true)
  | 31 => ("MarkedByNextModel", "planRow", "[I", true)
  | 32 => ("MarkedByNextModel", "seens", "I", false)
  | 33 => ("MarkedByNextModel", "seenDay", "[I", true)
  | 34 => ("MarkedByNextModel", "seenWho", "[I", true)
  | 35 => ("MarkedByNextModel", "seenOf", "[I", true)
  | 36 => ("MarkedByNextModel", "seenMuch", "[I", true)
  | 37 => ("MarkedByNextModel", "knownBy", "[I", true)
  | 38 => ("MarkedByNextModel", "isThere", "[Z", true)
  | 39 => ("MarkedByNextModel", "forms", "[I", true)
  | 40 => ("MarkedByNextModel", "sizes", "[I", true)
  | 41 => ("MarkedByNextModel", "items", "[I", true)
  | 42 => ("MarkedByNextModel", "moved", "[I", true)
  | _ => ("MarkedByNextModel", "finding", "I", false)
def tyX10 : Nat → FieldType := fun k => match k with
  | 0 => .array .int
  | 1 => .array .int
  | 2 => .int
  | 3 => .array .int
  | 4 => .array .int
  | 5 => .int
  | 6 => .array .int
  | 7 => .array .int
  | 8 => .int
  | 9 => .int
  | 10 => .array .int
  | 11 => .array .int
  | 12 => .array .int
  | 13 => .array .int
  | 14 => .int
  | 15 => .array .int
  | 16 => .array .int
  | 17 => .array .int
  | 18 => .int
  | 19 => .array .int
  | 20 => .array .int
  | 21 => .array .int
  | 22 => .array .int
  | 23 => .array .int
  | 24 => .array .int
  | 25 => .int
  | 26 => .array .int
  | 27 => .array .int
  | 28 => .array .int
  | 29 => .array .int
  | 30 => .array .int
  | 31 => .array .int
  | 32 => .int
  | 33 => .array .int
  | 34 => .array .int
  | 35 => .array .int
  | 36 => .array .int
  | 37 => .array .int
  | 38 => .array .boolean
  | 39 => .array .int
  | 40 => .array .int
  | 41 => .array .int
  | 42 => .array .int
  | _ => .int
theorem nmX10 : ∀ a, a < 44 → ∀ b, b < 44 → a ≠ b → (TX10 a).2.1 ≠ (TX10 b).2.1 := by decide +kernel
theorem tyX10_ok : ∀ k, k < 44 → parseFieldDescriptor (TX10 k).2.2.1 = some (tyX10 k) := by decide +kernel
theorem inX10 : ∀ w ∈ u_ws RX10 TX10 44, w ∈ lw_g := lw_g_all (by decide +kernel)
abbrev vwCl : List vw_C := [(RX0, TX0, 4), (RX1, TX1, 4), (RX2, TX2, 1), (RX3, TX3, 4), (RX4, TX4, 5), (RX5, TX5, 4), (RX6, TX6, 2), (RX7, TX7, 2), (RX8, TX8, 10), (RX9, TX9, 19), (RX10, TX10, 44)]
/-- a method: name, code, locals, answer, frames and words that it needs below it -/
abbrev vc_H : Type := MethodName × ByteArray × Nat × Option FieldType × Nat × Nat
abbrev vc_L : Type := Nat × Nat × List (Option Nat)
def vc_h0 : vc_H := (⟨"", "", ""⟩, .empty, 0, none, 0, 0)
def vc_HS : List vc_H := [
  (⟨"java/lang/Integer", "bitCount", "(I)I"⟩, prog_13_method_49_code, 1, some .int, 0, 0),
  (⟨"java/util/Arrays", "fill", "([II)V"⟩, prog_16_method_103_code, 4, none, 0, 0),
  (⟨"MarkedByNext$Text", "append", "(I)Z"⟩, prog_9_method_2_code, 2, some .boolean, 0, 0),
  (⟨"MarkedByNext$Roll", "fill", "(LMarkedByNext$Text;)V"⟩, prog_5_method_2_code, 4, none, 3, 62),
  (⟨"MarkedByNext$Roll", "findFault", "(LMarkedByNext$Text;)I"⟩, prog_5_method_3_code, 2, some .int, 2, 41),
  (⟨"MarkedByNext$Roll", "fits", "(II)Z"⟩, prog_5_method_4_code, 2, some .boolean, 1, 20),
  (⟨"MarkedByNext$Roll", "sortOf", "(I)I"⟩, prog_5_method_5_code, 1, some .int, 0, 0),
  (⟨"MarkedByNext$Benches", "fill", "(LMarkedByNext$Text;)V"⟩, prog_2_method_2_code, 2, none, 3, 68),
  (⟨"MarkedByNext$Benches", "fillToFault", "(LMarkedByNext$Text;)I"⟩, prog_2_method_3_code, 6, some .int, 2, 43),
  (⟨"MarkedByNext$Benches", "mayStand", "(I)Z"⟩, prog_2_method_4_code, 2, some .boolean, 1, 22),
  (⟨"MarkedByNext$Benches", "seatTold", "(I)I"⟩, prog_2_method_5_code, 3, some .int, 0, 0),
  (⟨"MarkedByNext$Benches", "sitter", "(II)I"⟩, prog_2_method_6_code, 3, some .int, 0, 0),
  (⟨"MarkedByNext$Benches", "sittersTold", "(I)I"⟩, prog_2_method_7_code, 5, some .int, 1, 22),
  (⟨"MarkedByNext$Changes", "append", "(III)V"⟩, prog_3_method_2_code, 4, none, 0, 0),
  (⟨"MarkedByNext$Changes", "take", "(LMarkedByNext$Changes;)V"⟩, prog_3_method_3_code, 3, none, 1, 23),
  (⟨"MarkedByNext$Lots", "draw", "(I)I"⟩, prog_4_method_2_code, 2, some .int, 0, 0),
  (⟨"MarkedByNext$Sheet", "renew", "(II)V"⟩, prog_7_method_2_code, 3, none, 1, 23),
  (⟨"MarkedByNext$Sheet", "wrongAt", "(II)I"⟩, prog_7_method_3_code, 3, some .int, 1, 22),
  (⟨"MarkedByNext$Sheet", "has", "(II)Z"⟩, prog_7_method_4_code, 3, some .boolean, 0, 0),
  (⟨"MarkedByNext$Sheet", "store", "(II)V"⟩, prog_7_method_5_code, 3, none, 0, 0),
  (⟨"MarkedByNext$Year", "begin", "(LMarkedByNext$Roll;LMarkedByNext$Benches;)V"⟩, prog_10_method_2_code, 4, none, 1, 26),
  (⟨"MarkedByNext$Year", "pass", "(LMarkedByNext$Changes;I)V"⟩, prog_10_method_3_code, 5, none, 3, 75),
  (⟨"MarkedByNext$Year", "exchange", "(III)V"⟩, prog_10_method_4_code, 5, none, 0, 0),
  (⟨"MarkedByNext$Year", "teach", "(II)V"⟩, prog_10_method_5_code, 8, none, 2, 48),
  (⟨"MarkedByNext$Year", "gainOf", "(IIII)I"⟩, prog_10_method_6_code, 8, some .int, 1, 21),
  (⟨"MarkedByNext$Year", "mark", "(I)V"⟩, prog_10_method_7_code, 8, none, 1, 23),
  (⟨"MarkedByNext$Year", "beside", "(III)I"⟩, prog_10_method_8_code, 4, some .int, 0, 0),
  (⟨"MarkedByNext$Year", "seatOf", "(II)I"⟩, prog_10_method_9_code, 4, some .int, 0, 0),
  (⟨"MarkedByNext$Year", "marksOf", "(II)I"⟩, prog_10_method_10_code, 3, some .int, 0, 0),
  (⟨"MarkedByNext$Year", "knownBehind", "(III)I"⟩, prog_10_method_11_code, 4, some .int, 0, 0),
  (⟨"MarkedByNext$Year", "firstPlaceOf", "(I)I"⟩, prog_10_method_12_code, 4, some .int, 0, 0),
  (⟨"MarkedByNext$Year", "mostMarked", "()I"⟩, prog_10_method_13_code, 3, some .int, 1, 22),
  (⟨"MarkedByNext$Year", "knownByAll", "()I"⟩, prog_10_method_14_code, 3, some .int, 0, 0),
  (⟨"MarkedByNext$Year", "marksOfAll", "()I"⟩, prog_10_method_15_code, 3, some .int, 1, 22),
  (⟨"MarkedByNext$Year", "ghostsOfAll", "()I"⟩, prog_10_method_16_code, 3, some .int, 0, 0),
  (⟨"MarkedByNext$Year", "idlers", "()I"⟩, prog_10_method_17_code, 4, some .int, 0, 0),
  (⟨"MarkedByNext$Seens", "append", "(IIII)Z"⟩, prog_6_method_2_code, 5, some .boolean, 0, 0),
  (⟨"MarkedByNext$Seens", "agree", "(LMarkedByNext$Year;)Z"⟩, prog_6_method_3_code, 3, some .boolean, 1, 23),
  (⟨"MarkedByNext$Tally", "clear", "()V"⟩, prog_8_method_2_code, 1, none, 1, 23),
  (⟨"MarkedByNext$Tally", "append", "(II)V"⟩, prog_8_method_3_code, 3, none, 0, 0),
  (⟨"MarkedByNext$Tally", "chanceOf", "(III)J"⟩, prog_8_method_4_code, 7, some .long, 1, 25),
  (⟨"MarkedByNext", "type", "(II)I"⟩, prog_1_method_2_code, 4, some .int, 5, 110),
  (⟨"MarkedByNext", "wipe", "(I)I"⟩, prog_1_method_3_code, 4, some .int, 5, 110),
  (⟨"MarkedByNext", "undo", "(I)I"⟩, prog_1_method_4_code, 3, some .int, 5, 110),
  (⟨"MarkedByNext", "fault", "(I)I"⟩, prog_1_method_5_code, 2, some .int, 1, 21),
  (⟨"MarkedByNext", "boy", "(II)I"⟩, prog_1_method_6_code, 3, some .int, 1, 21),
  (⟨"MarkedByNext", "seat", "(II)I"⟩, prog_1_method_7_code, 3, some .int, 1, 22),
  (⟨"MarkedByNext", "masters", "(I)I"⟩, prog_1_method_8_code, 3, some .int, 0, 0),
  (⟨"MarkedByNext", "change", "(III)I"⟩, prog_1_method_9_code, 4, some .int, 2, 43),
  (⟨"MarkedByNext", "back", "()I"⟩, prog_1_method_10_code, 1, some .int, 1, 20),
  (⟨"MarkedByNext", "read", "(I)I"⟩, prog_1_method_11_code, 6, some .int, 2, 43),
  (⟨"MarkedByNext", "at", "(III)I"⟩, prog_1_method_12_code, 5, some .int, 5, 119),
  (⟨"MarkedByNext", "knows", "(III)I"⟩, prog_1_method_13_code, 4, some .int, 5, 119),
  (⟨"MarkedByNext", "sits", "(II)I"⟩, prog_1_method_14_code, 3, some .int, 5, 119),
  (⟨"MarkedByNext", "ghost", "(I)I"⟩, prog_1_method_15_code, 2, some .int, 5, 119),
  (⟨"MarkedByNext", "master", "(I)I"⟩, prog_1_method_16_code, 3, some .int, 5, 119),
  (⟨"MarkedByNext", "best", "()I"⟩, prog_1_method_17_code, 1, some .int, 5, 119),
  (⟨"MarkedByNext", "form", "()I"⟩, prog_1_method_18_code, 1, some .int, 5, 119),
  (⟨"MarkedByNext", "idle", "()I"⟩, prog_1_method_19_code, 1, some .int, 5, 119),
  (⟨"MarkedByNext", "sit", "(II)I"⟩, prog_1_method_20_code, 4, some .int, 5, 123),
  (⟨"MarkedByNext", "trade", "(II)I"⟩, prog_1_method_21_code, 3, some .int, 5, 123),
  (⟨"MarkedByNext", "rush", "(I)I"⟩, prog_1_method_22_code, 2, some .int, 5, 124),
  (⟨"MarkedByNext", "table", "(I)I"⟩, prog_1_method_23_code, 2, some .int, 5, 121),
  (⟨"MarkedByNext", "spare", "(I)I"⟩, prog_1_method_24_code, 2, some .int, 6, 142),
  (⟨"MarkedByNext", "seen", "(IIII)I"⟩, prog_1_method_25_code, 5, some .int, 1, 24),
  (⟨"MarkedByNext", "forget", "()I"⟩, prog_1_method_26_code, 2, some .int, 0, 0),
  (⟨"MarkedByNext", "never", "()I"⟩, prog_1_method_27_code, 3, some .int, 4, 99),
  (⟨"MarkedByNext", "sort", "(I)I"⟩, prog_1_method_28_code, 4, some .int, 4, 99),
  (⟨"MarkedByNext", "first", "(II)I"⟩, prog_1_method_29_code, 3, some .int, 5, 124),
  (⟨"MarkedByNext", "ask", "(II)I"⟩, prog_1_method_30_code, 3, some .int, 5, 124),
  (⟨"MarkedByNext", "luck", "(III)J"⟩, prog_1_method_31_code, 10, some .long, 5, 121),
  (⟨"MarkedByNext", "years", "(III)I"⟩, prog_1_method_32_code, 4, some .int, 4, 99),
  (⟨"MarkedByNext", "sheet", "(III)I"⟩, prog_1_method_33_code, 4, some .int, 2, 45),
  (⟨"MarkedByNext", "lose", "(I)I"⟩, prog_1_method_34_code, 3, some .int, 1, 21),
  (⟨"MarkedByNext", "put", "(IIII)I"⟩, prog_1_method_35_code, 6, some .int, 2, 44),
  (⟨"MarkedByNext", "get", "(III)I"⟩, prog_1_method_36_code, 5, some .int, 2, 44),
  (⟨"MarkedByNext", "copy", "(IIIII)I"⟩, prog_1_method_37_code, 8, some .int, 1, 26),
  (⟨"MarkedByNext", "write", "(II)I"⟩, prog_1_method_38_code, 7, some .int, 5, 119),
  (⟨"MarkedByNext", "count", "(I)I"⟩, prog_1_method_39_code, 2, some .int, 5, 119),
  (⟨"MarkedByNext", "digest", "()J"⟩, prog_1_method_40_code, 4, some .long, 7, 175),
  (⟨"MarkedByNext", "mixSeats", "(J)J"⟩, prog_1_method_41_code, 6, some .long, 6, 141),
  (⟨"MarkedByNext", "mixDaysOf", "(JI)J"⟩, prog_1_method_42_code, 7, some .long, 6, 143),
  (⟨"MarkedByNext", "mixSubjectsOf", "(JI)J"⟩, prog_1_method_43_code, 7, some .long, 6, 146),
  (⟨"MarkedByNext", "mixChancesOf", "(JI)J"⟩, prog_1_method_44_code, 6, some .long, 6, 150),
  (⟨"MarkedByNext", "mixPlans", "(J)J"⟩, prog_1_method_45_code, 6, some .long, 6, 145),
  (⟨"MarkedByNext", "mix", "(JJ)J"⟩, prog_1_method_46_code, 4, some .long, 0, 0),
  (⟨"MarkedByNext", "within", "(II)Z"⟩, prog_1_method_47_code, 2, some .boolean, 0, 0),
  (⟨"MarkedByNext", "isBoy", "(I)Z"⟩, prog_1_method_48_code, 2, some .boolean, 0, 0),
  (⟨"MarkedByNext", "isSeat", "(I)Z"⟩, prog_1_method_49_code, 2, some .boolean, 0, 0),
  (⟨"MarkedByNext", "isChange", "(III)Z"⟩, prog_1_method_50_code, 3, some .boolean, 1, 21),
  (⟨"MarkedByNext", "textOf", "(I)LMarkedByNext$Text;"⟩, prog_1_method_51_code, 2, some (.object "MarkedByNext$Text"), 0, 0),
  (⟨"MarkedByNext", "rereadText", "(I)V"⟩, prog_1_method_52_code, 2, none, 4, 89),
  (⟨"MarkedByNext", "forgetYear", "()V"⟩, prog_1_method_53_code, 1, none, 0, 0),
  (⟨"MarkedByNext", "yearAsTold", "()LMarkedByNext$Year;"⟩, prog_1_method_54_code, 1, some (.object "MarkedByNext$Year"), 4, 99),
  (⟨"MarkedByNext", "found", "(I)I"⟩, prog_1_method_55_code, 2, some .int, 0, 0),
  (⟨"MarkedByNext", "isAsked", "(I)Z"⟩, prog_1_method_56_code, 3, some .boolean, 0, 0),
  (⟨"MarkedByNext", "findSit", "(II)V"⟩, prog_1_method_57_code, 5, none, 4, 99),
  (⟨"MarkedByNext", "findTrade", "(I)V"⟩, prog_1_method_58_code, 5, none, 4, 99),
  (⟨"MarkedByNext", "findRush", "(LMarkedByNext$Year;)V"⟩, prog_1_method_59_code, 6, none, 4, 99),
  (⟨"MarkedByNext", "findTable", "()V"⟩, prog_1_method_60_code, 3, none, 4, 99),
  (⟨"MarkedByNext", "findSpare", "()V"⟩, prog_1_method_61_code, 3, none, 5, 120),
  (⟨"MarkedByNext", "nobodyIsIdle", "(I)Z"⟩, prog_1_method_62_code, 2, some .boolean, 4, 99),
  (⟨"MarkedByNext", "findFirsts", "(II)V"⟩, prog_1_method_63_code, 6, none, 4, 99),
  (⟨"MarkedByNext", "dayToAsk", "(I)I"⟩, prog_1_method_64_code, 6, some .int, 2, 48),
  (⟨"MarkedByNext", "greatestAlike", "(II)I"⟩, prog_1_method_65_code, 6, some .int, 1, 23),
  (⟨"MarkedByNext", "tallyBests", "()V"⟩, prog_1_method_66_code, 3, none, 4, 99),
  (⟨"MarkedByNext", "drawChanges", "(II)V"⟩, prog_1_method_67_code, 7, none, 1, 23),
  (⟨"MarkedByNext", "power", "(JI)J"⟩, prog_1_method_68_code, 6, some .long, 0, 0),
  (⟨"MarkedByNext", "commonDivisor", "(JJ)J"⟩, prog_1_method_69_code, 11, some .long, 0, 0),
  (⟨"MarkedByNextModel", "in", "(III)Z"⟩, prog_12_method_3_code, 3, some .boolean, 0, 0),
  (⟨"MarkedByNextModel", "isIn", "(II)Z"⟩, prog_12_method_4_code, 2, some .boolean, 0, 0),
  (⟨"MarkedByNextModel", "no", "(I)J"⟩, prog_12_method_5_code, 1, some .long, 0, 0),
  (⟨"MarkedByNextModel", "lowest", "(JJI)J"⟩, prog_12_method_6_code, 11, some .long, 0, 0),
  (⟨"MarkedByNextModel", "isText", "(I)Z"⟩, prog_12_method_7_code, 1, some .boolean, 1, 22),
  (⟨"MarkedByNextModel", "isDay", "(I)Z"⟩, prog_12_method_8_code, 1, some .boolean, 1, 22),
  (⟨"MarkedByNextModel", "isEight", "(I)Z"⟩, prog_12_method_9_code, 1, some .boolean, 1, 22),
  (⟨"MarkedByNextModel", "isThree", "(I)Z"⟩, prog_12_method_10_code, 1, some .boolean, 1, 22),
  (⟨"MarkedByNextModel", "type", "(II)I"⟩, prog_12_method_11_code, 3, some .int, 2, 42),
  (⟨"MarkedByNextModel", "wipe", "(I)I"⟩, prog_12_method_12_code, 3, some .int, 2, 42),
  (⟨"MarkedByNextModel", "undo", "(I)I"⟩, prog_12_method_13_code, 2, some .int, 2, 42),
  (⟨"MarkedByNextModel", "byteAt", "(I)I"⟩, prog_12_method_14_code, 2, some .int, 0, 0),
  (⟨"MarkedByNextModel", "sortAt", "(I)I"⟩, prog_12_method_15_code, 3, some .int, 1, 21),
  (⟨"MarkedByNextModel", "readsBoy", "(II)I"⟩, prog_12_method_16_code, 5, some .int, 2, 43),
  (⟨"MarkedByNextModel", "readsBoys", "()I"⟩, prog_12_method_17_code, 4, some .int, 3, 67),
  (⟨"MarkedByNextModel", "readsBenches", "()I"⟩, prog_12_method_18_code, 9, some .int, 1, 22),
  (⟨"MarkedByNextModel", "faultOf", "(I)I"⟩, prog_12_method_19_code, 4, some .int, 4, 90),
  (⟨"MarkedByNextModel", "reads", "()V"⟩, prog_12_method_20_code, 2, none, 5, 113),
  (⟨"MarkedByNextModel", "fault", "(I)I"⟩, prog_12_method_21_code, 2, some .int, 5, 113),
  (⟨"MarkedByNextModel", "isBoy", "(I)Z"⟩, prog_12_method_22_code, 2, some .boolean, 6, 134),
  (⟨"MarkedByNextModel", "isSeat", "(I)Z"⟩, prog_12_method_23_code, 2, some .boolean, 6, 134),
  (⟨"MarkedByNextModel", "boyOf", "(II)I"⟩, prog_12_method_24_code, 3, some .int, 0, 0),
  (⟨"MarkedByNextModel", "boy", "(II)I"⟩, prog_12_method_25_code, 3, some .int, 7, 155),
  (⟨"MarkedByNextModel", "whoTold", "(I)I"⟩, prog_12_method_26_code, 2, some .int, 0, 0),
  (⟨"MarkedByNextModel", "seatOf", "(II)I"⟩, prog_12_method_27_code, 3, some .int, 1, 21),
  (⟨"MarkedByNextModel", "seat", "(II)I"⟩, prog_12_method_28_code, 3, some .int, 7, 155),
  (⟨"MarkedByNextModel", "masters", "(I)I"⟩, prog_12_method_29_code, 3, some .int, 1, 22),
  (⟨"MarkedByNextModel", "change", "(III)I"⟩, prog_12_method_30_code, 4, some .int, 2, 42),
  (⟨"MarkedByNextModel", "back", "()I"⟩, prog_12_method_31_code, 1, some .int, 0, 0),
  (⟨"MarkedByNextModel", "read", "(I)I"⟩, prog_12_method_32_code, 4, some .int, 3, 65),
  (⟨"MarkedByNextModel", "asTold", "()V"⟩, prog_12_method_33_code, 2, none, 6, 134),
  (⟨"MarkedByNextModel", "changesOn", "(I)V"⟩, prog_12_method_34_code, 5, none, 1, 21),
  (⟨"MarkedByNextModel", "beside", "(II)I"⟩, prog_12_method_35_code, 3, some .int, 1, 22),
  (⟨"MarkedByNextModel", "moreThan", "(III)I"⟩, prog_12_method_36_code, 4, some .int, 0, 0),
  (⟨"MarkedByNextModel", "gainOf", "(II)I"⟩, prog_12_method_37_code, 10, some .int, 2, 44),
  (⟨"MarkedByNextModel", "gained", "(I)I"⟩, prog_12_method_38_code, 2, some .int, 0, 0),
  (⟨"MarkedByNextModel", "teaches", "(I)V"⟩, prog_12_method_39_code, 5, none, 3, 73),
  (⟨"MarkedByNextModel", "goesBy", "(I)V"⟩, prog_12_method_40_code, 3, none, 4, 97),
  (⟨"MarkedByNextModel", "runs", "()V"⟩, prog_12_method_41_code, 2, none, 5, 119),
  (⟨"MarkedByNextModel", "runsTold", "()V"⟩, prog_12_method_42_code, 1, none, 7, 155),
  (⟨"MarkedByNextModel", "placeOf", "(II)I"⟩, prog_12_method_43_code, 5, some .int, 0, 0),
  (⟨"MarkedByNextModel", "atOf", "(III)I"⟩, prog_12_method_44_code, 4, some .int, 8, 175),
  (⟨"MarkedByNextModel", "at", "(III)I"⟩, prog_12_method_45_code, 4, some .int, 9, 198),
  (⟨"MarkedByNextModel", "knowsOf", "(III)I"⟩, prog_12_method_46_code, 4, some .int, 8, 175),
  (⟨"MarkedByNextModel", "knows", "(III)I"⟩, prog_12_method_47_code, 4, some .int, 9, 198),
  (⟨"MarkedByNextModel", "sitsOf", "(II)I"⟩, prog_12_method_48_code, 3, some .int, 8, 175),
  (⟨"MarkedByNextModel", "sits", "(II)I"⟩, prog_12_method_49_code, 3, some .int, 9, 197),
  (⟨"MarkedByNextModel", "ghostOf", "(I)I"⟩, prog_12_method_50_code, 2, some .int, 8, 175),
  (⟨"MarkedByNextModel", "ghost", "(I)I"⟩, prog_12_method_51_code, 2, some .int, 9, 196),
  (⟨"MarkedByNextModel", "masterOf", "(I)I"⟩, prog_12_method_52_code, 4, some .int, 8, 175),
  (⟨"MarkedByNextModel", "master", "(I)I"⟩, prog_12_method_53_code, 2, some .int, 9, 198),
  (⟨"MarkedByNextModel", "bestNow", "()I"⟩, prog_12_method_54_code, 3, some .int, 0, 0),
  (⟨"MarkedByNextModel", "bestOf", "()I"⟩, prog_12_method_55_code, 1, some .int, 8, 175),
  (⟨"MarkedByNextModel", "best", "()I"⟩, prog_12_method_56_code, 1, some .int, 9, 195),
  (⟨"MarkedByNextModel", "formNow", "()I"⟩, prog_12_method_57_code, 3, some .int, 0, 0),
  (⟨"MarkedByNextModel", "formOf", "()I"⟩, prog_12_method_58_code, 1, some .int, 8, 175),
  (⟨"MarkedByNextModel", "form", "()I"⟩, prog_12_method_59_code, 1, some .int, 9, 195),
  (⟨"MarkedByNextModel", "idleNow", "()I"⟩, prog_12_method_60_code, 1, some .int, 0, 0),
  (⟨"MarkedByNextModel", "idleOf", "()I"⟩, prog_12_method_61_code, 1, some .int, 8, 175),
  (⟨"MarkedByNextModel", "idle", "()I"⟩, prog_12_method_62_code, 1, some .int, 9, 195),
  (⟨"MarkedByNextModel", "placeTold", "(I)I"⟩, prog_12_method_63_code, 4, some .int, 0, 0),
  (⟨"MarkedByNextModel", "swaps", "(II)V"⟩, prog_12_method_64_code, 4, none, 0, 0),
  (⟨"MarkedByNextModel", "sitOf", "(II)I"⟩, prog_12_method_65_code, 7, some .int, 7, 155),
  (⟨"MarkedByNextModel", "sit", "(II)I"⟩, prog_12_method_66_code, 3, some .int, 8, 181),
  (⟨"MarkedByNextModel", "tradeOf", "(II)I"⟩, prog_12_method_67_code, 8, some .int, 7, 155),
  (⟨"MarkedByNextModel", "trade", "(II)I"⟩, prog_12_method_68_code, 3, some .int, 8, 182),
  (⟨"MarkedByNextModel", "rushOf", "(I)I"⟩, prog_12_method_69_code, 6, some .int, 7, 155),
  (⟨"MarkedByNextModel", "rush", "(I)I"⟩, prog_12_method_70_code, 2, some .int, 8, 180),
  (⟨"MarkedByNextModel", "tableOf", "(I)I"⟩, prog_12_method_71_code, 6, some .int, 7, 155),
  (⟨"MarkedByNextModel", "table", "(I)I"⟩, prog_12_method_72_code, 2, some .int, 8, 180),
  (⟨"MarkedByNextModel", "isSpared", "(I)Z"⟩, prog_12_method_73_code, 4, some .boolean, 6, 140),
  (⟨"MarkedByNextModel", "spareBy", "()I"⟩, prog_12_method_74_code, 3, some .int, 7, 163),
  (⟨"MarkedByNextModel", "ofRow", "(II)I"⟩, prog_12_method_75_code, 3, some .int, 0, 0),
  (⟨"MarkedByNextModel", "spare", "(I)I"⟩, prog_12_method_76_code, 2, some .int, 8, 185),
  (⟨"MarkedByNextModel", "seen", "(IIII)I"⟩, prog_12_method_77_code, 5, some .int, 2, 42),
  (⟨"MarkedByNextModel", "forget", "()I"⟩, prog_12_method_78_code, 2, some .int, 0, 0),
  (⟨"MarkedByNextModel", "isSeen", "()Z"⟩, prog_12_method_79_code, 3, some .boolean, 6, 140),
  (⟨"MarkedByNextModel", "neverNow", "()I"⟩, prog_12_method_80_code, 3, some .int, 7, 162),
  (⟨"MarkedByNextModel", "never", "()I"⟩, prog_12_method_81_code, 1, some .int, 8, 184),
  (⟨"MarkedByNextModel", "sortsBy", "(I)I"⟩, prog_12_method_82_code, 5, some .int, 7, 162),
  (⟨"MarkedByNextModel", "sort", "(I)I"⟩, prog_12_method_83_code, 2, some .int, 8, 186),
  (⟨"MarkedByNextModel", "firstBy", "(II)I"⟩, prog_12_method_84_code, 8, some .int, 7, 162),
  (⟨"MarkedByNextModel", "first", "(II)I"⟩, prog_12_method_85_code, 3, some .int, 8, 189),
  (⟨"MarkedByNextModel", "askOf", "(II)I"⟩, prog_12_method_86_code, 11, some .int, 8, 189),
  (⟨"MarkedByNextModel", "ask", "(II)I"⟩, prog_12_method_87_code, 3, some .int, 9, 219),
  (⟨"MarkedByNextModel", "luckOf", "(III)J"⟩, prog_12_method_88_code, 10, some .long, 7, 155),
  (⟨"MarkedByNextModel", "luck", "(III)J"⟩, prog_12_method_89_code, 4, some .long, 8, 184),
  (⟨"MarkedByNextModel", "marksAll", "()I"⟩, prog_12_method_90_code, 3, some .int, 0, 0),
  (⟨"MarkedByNextModel", "yearsOf", "(III)I"⟩, prog_12_method_91_code, 6, some .int, 7, 155),
  (⟨"MarkedByNextModel", "years", "(III)I"⟩, prog_12_method_92_code, 4, some .int, 8, 180),
  (⟨"MarkedByNextModel", "meets", "(I)I"⟩, prog_12_method_93_code, 2, some .int, 0, 0),
  (⟨"MarkedByNextModel", "isSheet", "(I)Z"⟩, prog_12_method_94_code, 1, some .boolean, 1, 22),
  (⟨"MarkedByNextModel", "sheet", "(III)I"⟩, prog_12_method_95_code, 5, some .int, 2, 42),
  (⟨"MarkedByNextModel", "lose", "(I)I"⟩, prog_12_method_96_code, 2, some .int, 2, 42),
  (⟨"MarkedByNextModel", "lacks", "(III)I"⟩, prog_12_method_97_code, 4, some .int, 1, 22),
  (⟨"MarkedByNextModel", "keep", "(III)V"⟩, prog_12_method_98_code, 4, none, 0, 0),
  (⟨"MarkedByNextModel", "put", "(IIII)I"⟩, prog_12_method_99_code, 6, some .int, 2, 45),
  (⟨"MarkedByNextModel", "get", "(III)I"⟩, prog_12_method_100_code, 5, some .int, 2, 45),
  (⟨"MarkedByNextModel", "copy", "(IIIII)I"⟩, prog_12_method_101_code, 7, some .int, 2, 42),
  (⟨"MarkedByNextModel", "write", "(II)I"⟩, prog_12_method_102_code, 4, some .int, 8, 175),
  (⟨"MarkedByNextModel", "ghostsAll", "()I"⟩, prog_12_method_103_code, 3, some .int, 0, 0),
  (⟨"MarkedByNextModel", "sumOf", "(I)I"⟩, prog_12_method_104_code, 2, some .int, 8, 175),
  (⟨"MarkedByNextModel", "count", "(I)I"⟩, prog_12_method_105_code, 2, some .int, 9, 196),
  (⟨"MarkedByNextModel", "seatDigest", "(JI)J"⟩, prog_12_method_106_code, 6, some .long, 9, 197),
  (⟨"MarkedByNextModel", "atDigest", "(JII)J"⟩, prog_12_method_107_code, 8, some .long, 9, 198),
  (⟨"MarkedByNextModel", "boyDigest", "(JI)J"⟩, prog_12_method_108_code, 7, some .long, 10, 225),
  (⟨"MarkedByNextModel", "digest", "()J"⟩, prog_12_method_109_code, 4, some .long, 11, 251),
  (⟨"MarkedByNextLaw", "law", "([I)Z"⟩, code, 4, some .boolean, 12, 274)]
def vc_HP : List (Nat × Nat × Nat × Nat × Nat × Nat) := [(1, 1, 723, 104, 722, 0), (1, 2, 512, 103, 511, 0), (0, 1, 397, 91, 395, 396), (0, 1, 405, 93, 403, 404), (1, 1, 408, 93, 407, 0), (1, 2, 411, 93, 410, 0), (1, 1, 414, 93, 413, 0), (0, 1, 418, 94, 416, 417), (0, 1, 422, 94, 421, 2), (0, 1, 426, 94, 425, 3), (0, 1, 430, 94, 428, 429), (0, 2, 466, 94, 464, 465), (0, 1, 658, 94, 656, 657), (0, 3, 481, 95, 479, 480), (0, 1, 622, 95, 620, 621), (0, 1, 754, 98, 752, 753), (0, 2, 767, 100, 765, 766), (0, 2, 780, 100, 778, 779), (0, 2, 784, 100, 782, 783), (0, 2, 788, 100, 786, 787), (0, 2, 505, 97, 503, 504), (0, 2, 516, 97, 514, 515), (0, 3, 520, 97, 518, 519), (0, 2, 524, 97, 523, 9), (0, 4, 532, 97, 531, 11), (0, 1, 539, 97, 538, 12), (0, 3, 528, 97, 527, 10), (0, 2, 543, 97, 541, 542), (0, 2, 547, 97, 545, 546), (0, 3, 555, 97, 553, 554), (0, 1, 571, 97, 569, 570), (0, 0, 579, 97, 577, 578), (0, 0, 588, 97, 586, 587), (0, 0, 759, 97, 757, 758), (0, 0, 811, 97, 809, 810), (0, 0, 596, 97, 594, 595), (0, 4, 667, 96, 665, 666), (0, 1, 679, 96, 677, 678), (0, 0, 719, 99, 717, 718), (0, 2, 730, 99, 728, 729), (0, 3, 734, 99, 732, 733), (0, 2, 386, 90, 384, 385), (0, 1, 438, 90, 436, 437), (0, 1, 442, 90, 440, 441), (0, 1, 446, 90, 444, 445), (0, 2, 450, 90, 448, 449), (0, 2, 458, 90, 456, 457), (0, 1, 470, 90, 468, 469), (0, 3, 474, 90, 472, 473), (0, 0, 485, 90, 483, 484), (0, 1, 489, 90, 487, 488), (0, 3, 497, 90, 495, 496), (0, 3, 551, 90, 549, 550), (0, 2, 559, 90, 557, 558), (0, 1, 563, 90, 561, 562), (0, 1, 567, 90, 565, 566), (0, 0, 575, 90, 573, 574), (0, 0, 584, 90, 582, 583), (0, 0, 592, 90, 590, 591), (0, 2, 600, 90, 598, 599), (0, 2, 614, 90, 612, 613), (0, 1, 627, 90, 625, 626), (0, 1, 635, 90, 633, 634), (0, 1, 646, 90, 644, 645), (0, 4, 663, 90, 661, 662), (0, 0, 671, 90, 669, 670), (0, 0, 675, 90, 673, 674), (0, 1, 684, 90, 682, 683), (0, 2, 688, 90, 686, 687), (0, 2, 706, 90, 704, 705), (0, 3, 710, 90, 708, 709), (0, 3, 746, 90, 744, 745), (0, 3, 763, 90, 761, 762), (0, 1, 772, 90, 770, 771), (0, 4, 776, 90, 774, 775), (0, 3, 792, 90, 790, 791), (0, 5, 797, 90, 795, 796), (0, 2, 802, 90, 800, 801), (0, 1, 807, 90, 805, 806), (0, 0, 815, 90, 813, 814), (0, 1, 826, 90, 825, 25), (0, 2, 833, 90, 832, 26), (0, 2, 839, 90, 838, 27), (0, 2, 846, 90, 845, 28), (0, 1, 857, 90, 856, 29), (1, 2, 820, 90, 819, 0), (1, 2, 389, 90, 388, 0), (0, 1, 454, 90, 453, 5), (0, 1, 462, 90, 461, 6), (1, 3, 477, 90, 476, 0), (0, 1, 393, 90, 392, 0), (0, 1, 401, 90, 400, 1), (0, 0, 434, 90, 433, 4), (0, 0, 501, 90, 500, 8), (0, 1, 493, 90, 492, 7), (0, 1, 605, 90, 604, 13), (0, 2, 609, 90, 608, 14), (0, 1, 618, 90, 617, 15), (0, 1, 631, 90, 630, 16), (0, 0, 639, 90, 638, 17), (0, 0, 650, 90, 649, 18), (0, 1, 654, 90, 653, 19), (0, 2, 692, 90, 691, 20), (0, 1, 696, 90, 695, 21), (0, 2, 700, 90, 699, 22), (0, 0, 715, 90, 714, 23), (0, 2, 750, 90, 749, 24), (1, 2, 737, 90, 736, 0), (1, 2, 742, 90, 741, 0), (1, 3, 1013, 101, 1012, 0), (1, 2, 1052, 101, 1051, 0), (1, 1, 1351, 101, 1350, 0), (1, 3, 1348, 101, 1347, 0), (1, 1, 1010, 101, 1009, 0), (1, 1, 1095, 101, 1094, 0), (1, 1, 1297, 101, 1296, 0), (1, 1, 1118, 101, 1117, 0), (0, 2, 1007, 101, 1005, 1006), (0, 1, 1017, 101, 1015, 1016), (0, 1, 1021, 101, 1019, 1020), (0, 1, 1045, 101, 1044, 34), (0, 1, 1041, 101, 1040, 33), (0, 2, 1037, 101, 1036, 32), (0, 0, 1033, 101, 1032, 31), (0, 0, 1049, 101, 1048, 35), (0, 1, 1029, 101, 1028, 30), (0, 0, 1064, 101, 1063, 37), (0, 1, 1025, 101, 1023, 1024), (0, 1, 1060, 101, 1059, 36), (0, 1, 1076, 101, 1075, 39), (0, 2, 1068, 101, 1067, 38), (0, 2, 1056, 101, 1054, 1055), (0, 1, 1084, 101, 1083, 41), (0, 2, 1080, 101, 1079, 40), (0, 2, 1072, 101, 1070, 1071), (0, 1, 1088, 101, 1086, 1087), (0, 3, 1092, 101, 1090, 1091), (0, 0, 1099, 101, 1097, 1098), (0, 1, 1103, 101, 1101, 1102), (0, 0, 1130, 101, 1129, 45), (0, 1, 1142, 101, 1141, 48), (0, 2, 1154, 101, 1153, 51), (0, 3, 1158, 101, 1157, 52), (0, 2, 1150, 101, 1149, 50), (0, 1, 1162, 101, 1161, 53), (0, 1, 1146, 101, 1145, 49), (0, 1, 1138, 101, 1137, 47), (0, 0, 1134, 101, 1133, 46), (0, 0, 1126, 101, 1125, 44), (0, 2, 1166, 101, 1165, 54), (0, 3, 1122, 101, 1121, 43), (0, 3, 1115, 101, 1113, 1114), (0, 3, 1174, 101, 1173, 55), (0, 3, 1170, 101, 1168, 1169), (0, 2, 1182, 101, 1181, 56), (0, 2, 1178, 101, 1176, 1177), (0, 1, 1190, 101, 1189, 57), (0, 1, 1186, 101, 1184, 1185), (0, 1, 1198, 101, 1197, 58), (0, 1, 1194, 101, 1192, 1193), (0, 0, 1210, 101, 1209, 60), (0, 0, 1206, 101, 1205, 59), (0, 0, 1202, 101, 1200, 1201), (0, 0, 1222, 101, 1221, 62), (0, 0, 1218, 101, 1217, 61), (0, 0, 1214, 101, 1212, 1213), (0, 0, 1234, 101, 1233, 64), (0, 0, 1230, 101, 1229, 63), (0, 0, 1226, 101, 1224, 1225), (0, 1, 1246, 101, 1245, 66), (0, 2, 1250, 101, 1249, 67), (0, 2, 1242, 101, 1241, 65), (0, 2, 1238, 101, 1236, 1237), (0, 2, 1258, 101, 1257, 68), (0, 2, 1254, 101, 1252, 1253), (0, 1, 1266, 101, 1265, 69), (0, 1, 1262, 101, 1260, 1261), (0, 1, 1274, 101, 1273, 70), (0, 1, 1270, 101, 1268, 1269), (0, 1, 1286, 101, 1285, 72), (0, 0, 1282, 101, 1281, 71), (0, 2, 1290, 101, 1289, 73), (0, 1, 1278, 101, 1276, 1277), (0, 4, 1294, 101, 1292, 1293), (0, 0, 1301, 101, 1299, 1300), (0, 0, 1313, 101, 1312, 75), (0, 0, 1309, 101, 1308, 74), (0, 0, 1305, 101, 1303, 1304), (0, 1, 1321, 101, 1320, 76), (0, 1, 1317, 101, 1315, 1316), (0, 2, 1329, 101, 1328, 77), (0, 2, 1325, 101, 1323, 1324), (0, 2, 1337, 101, 1336, 78), (0, 2, 1333, 101, 1331, 1332), (0, 3, 1345, 101, 1344, 79), (0, 3, 1341, 101, 1339, 1340), (0, 0, 1365, 101, 1364, 81), (0, 3, 1360, 101, 1359, 80), (0, 3, 1356, 101, 1354, 1355), (0, 1, 1110, 101, 1109, 42), (1, 1, 1106, 101, 1105, 0), (0, 3, 1369, 101, 1367, 1368), (0, 1, 1373, 101, 1371, 1372), (0, 3, 1381, 101, 1380, 82), (0, 3, 1385, 101, 1384, 83), (0, 4, 1377, 101, 1375, 1376), (0, 3, 1389, 101, 1387, 1388), (0, 5, 1394, 101, 1392, 1393), (0, 2, 1398, 101, 1396, 1397), (0, 0, 1410, 101, 1409, 85), (0, 1, 1406, 101, 1405, 84), (0, 1, 1402, 101, 1400, 1401), (0, 2, 1421, 101, 1420, 86), (0, 3, 1429, 101, 1428, 88), (0, 2, 1425, 101, 1424, 87), (0, 0, 1414, 101, 1412, 1413), (2, 1, 0, 0, 0, 0)]
/-- the cells: kind (0 ints, 1 booleans, 2 sheets, 3 + class), length, fields (a cell, or an int) -/
def vc_LAY : List vc_L := [(12, 0, [some 1, some 3, some 5, some 8, some 11, some 15, some 20, some 29, some 38, some 47, some 51, some 52, some 54, some 55, some 56, none, none, none, none]), (10, 0, [some 2, none]), (0, 39, []), (10, 0, [some 4, none]), (0, 19, []), (6, 0, [some 6, some 7, none, none]), (0, 8, []), (0, 24, []), (3, 0, [some 9, some 10, none, none]), (0, 16, []), (0, 16, []), (4, 0, [some 12, some 13, some 14, none]), (0, 9, []), (0, 9, []), (0, 9, []), (7, 0, [some 16, some 17, some 18, some 19, none]), (0, 8, []), (0, 8, []), (0, 8, []), (0, 8, []), (2, 4, [some 21, some 23, some 25, some 27]), (8, 0, [some 22, none, none, none]), (0, 60, []), (8, 0, [some 24, none, none, none]), (0, 60, []), (8, 0, [some 26, none, none, none]), (0, 60, []), (8, 0, [some 28, none, none, none]), (0, 60, []), (11, 0, [some 30, some 31, some 32, some 33, some 34, some 35, some 36, some 37, none, none]), (0, 496, []), (0, 744, []), (0, 248, []), (0, 240, []), (0, 16, []), (0, 8, []), (0, 16, []), (0, 3, []), (11, 0, [some 39, some 40, some 41, some 42, some 43, some 44, some 45, some 46, none, none]), (0, 496, []), (0, 744, []), (0, 248, []), (0, 240, []), (0, 16, []), (0, 8, []), (0, 16, []), (0, 3, []), (4, 0, [some 48, some 49, some 50, none]), (0, 9, []), (0, 9, []), (0, 9, []), (5, 0, [none]), (9, 0, [some 53, none]), (0, 72, []), (0, 4, []), (0, 300, []), (0, 31, []), (13, 0, [some 58, some 59, none, some 60, some 61, none, some 62, some 63, none, none, some 64, some 65, some 66, some 67, none, some 68, some 69, some 70, none, some 71, some 72, some 73, some 74, some 75, some 76, none, some 77, some 78, some 79, some 80, some 81, some 82, none, some 83, some 84, some 85, some 86, some 87, some 88, some 89, some 90, some 91, some 92, none]), (0, 2, []), (0, 78, []), (0, 9, []), (0, 27, []), (0, 16, []), (0, 16, []), (0, 9, []), (0, 9, []), (0, 9, []), (0, 16, []), (0, 9, []), (0, 9, []), (0, 9, []), (0, 3, []), (0, 16, []), (0, 24, []), (0, 8, []), (0, 8, []), (0, 16, []), (0, 480, []), (0, 240, []), (0, 240, []), (0, 720, []), (0, 8, []), (0, 2, []), (0, 8, []), (0, 8, []), (0, 8, []), (0, 8, []), (0, 300, []), (1, 4, []), (0, 4, []), (0, 4, []), (0, 240, []), (0, 60, [])]
